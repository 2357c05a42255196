set_option maxHeartbeats 4000000 in
set_option maxRecDepth 100000 in
theorem lc_make {p : Program} {l : Launch} {e : Env} {s : State} {m : MethodId} {below : List Frame} {meth : Method} {c : Code} {D : va_G} {Q : State → Prop} {b L : Nat} {xs : Nat → Int32} {F : CF} {G : DF} (X : gx p s m #[Value.ref b] c code 4 RL wLW D vwCl (cT F ++ dT G) (aLW s)) (hX : va_X b L xs s s.heap) (hbl : b < s.heap.size) (hL : L ≤ 2049) (hCG : dC G = kC F) {u : CS} {t : DS} (hI : Iv F u t) (hM : gM t < 512) {i cells slots : Nat} (hi : i + 4 ≤ L) (hcs : cells + 2 ≤ 600000) (hss : slots + 23 ≤ 7302250)
    (kk : ∀ (u2 : CS) (t2 : DS), Iv F u2 t2 → gM t2 ≤ gM t + 1 → gg p l e room_1 s m #[Value.ref b] below meth c (cells + 2) (slots + 23) Q D vwCl (aLW s) 4 (cW F u2 ++ dW G t2) [(3, .int (nI i)), (2, .ref (dH G)), (1, .ref (kH F)), (0, .ref b)] 507 []) : gg p l e room_1 s m #[Value.ref b] below meth c cells slots Q D vwCl (aLW s) 4 (cW F u ++ dW G t) [(3, .int (nI i)), (2, .ref (dH G)), (1, .ref (kH F)), (0, .ref b)] 108 [] := by
  obtain ⟨rho, hRl, hc, hk⟩ := id hI
  have hC3 : dC G ≤ 3000 := by rw [hCG]; exact hc.2.2.1
  have hKc : va_K D vwCl (cT F) s := X.2.2.2.2.2.1.sub [0, 1] rfl
  have hKd : va_K D vwCl (dT G) s := X.2.2.2.2.2.1.sub [2, 3, 4] rfl
  refine gg_aload_n X dL_law_108 rfl 2 rfl ?_
  refine gg_aload_n X dL_law_109 rfl 3 rfl ?_
  refine gg_iload_n X dL_law_110 rfl 0 rfl ?_
  refine gg_iconst X dL_law_111 (v := nI 1) (by decide) ?_
  refine gg_iadd X dL_law_112 (nI_add _ _) ?_
  refine gg_sld X hX hbl dL_law_113 (i + 1) rfl (by omega) (by omega) ?_
  refine gg_aload_n X dL_law_114 rfl 3 rfl ?_
  refine gg_iload_n X dL_law_115 rfl 0 rfl ?_
  refine gg_iconst X dL_law_116 (v := nI 2) (by decide) ?_
  refine gg_iadd X dL_law_117 (nI_add _ _) ?_
  refine gg_sld X hX hbl dL_law_118 (i + 2) rfl (by omega) (by omega) ?_
  refine gg_aload_n X dL_law_119 rfl 3 rfl ?_
  refine gg_iload_n X dL_law_120 rfl 0 rfl ?_
  refine gg_iconst X dL_law_121 (v := nI 3) (by decide) ?_
  refine gg_iadd X dL_law_122 (nI_add _ _) ?_
  refine gg_sld X hX hbl dL_law_123 (i + 3) rfl (by omega) (by omega) ?_
  refine gc_iL X (gr_V (q0 := 0) X dL_law_124 hKc (k_make l D F u hc (xs (i + 1)) (xs (i + 2)) (xs (i + 3))) (cwV 3 X.2.2.2.2.1 (gdV (al 47 rfl) (al 48 rfl) (al 252 rfl) (al 1 rfl) (al 49 rfl)) rfl rfl rfl (by decide +kernel) ⟨Nat.le_of_ble_eq_true rfl, Nat.le_of_ble_eq_true rfl⟩) rfl rfl rfl rfl rfl (Nat.le_of_ble_eq_true rfl) ⟨by show cells + 2 ≤ 600000; omega, by show slots + 23 ≤ 7302250; omega⟩) (fun x u2 hx => ?_)
  refine gg_aload_n X dL_law_127 rfl 1 rfl ?_
  refine gg_aload_n X dL_law_128 rfl 3 rfl ?_
  refine gg_iload_n X dL_law_129 rfl 0 rfl ?_
  refine gg_iconst X dL_law_130 (v := nI 1) (by decide) ?_
  refine gg_iadd X dL_law_131 (nI_add _ _) ?_
  refine gg_sld X hX hbl dL_law_132 (i + 1) rfl (by omega) (by omega) ?_
  refine gg_aload_n X dL_law_133 rfl 3 rfl ?_
  refine gg_iload_n X dL_law_134 rfl 0 rfl ?_
  refine gg_iconst X dL_law_135 (v := nI 2) (by decide) ?_
  refine gg_iadd X dL_law_136 (nI_add _ _) ?_
  refine gg_sld X hX hbl dL_law_137 (i + 2) rfl (by omega) (by omega) ?_
  refine gg_aload_n X dL_law_138 rfl 3 rfl ?_
  refine gg_iload_n X dL_law_139 rfl 0 rfl ?_
  refine gg_iconst X dL_law_140 (v := nI 3) (by decide) ?_
  refine gg_iadd X dL_law_141 (nI_add _ _) ?_
  refine gg_sld X hX hbl dL_law_142 (i + 3) rfl (by omega) (by omega) ?_
  refine gc_iR X (gr_V (q0 := 0) X dL_law_143 hKd (k_maked l D G t hk hC3 (xs (i + 1)) (xs (i + 2)) (xs (i + 3))) (cwV 3 X.2.2.2.2.1 (gdV (al 162 rfl) (al 163 rfl) (al 265 rfl) (al 4 rfl) (al 164 rfl)) rfl rfl rfl (by decide +kernel) ⟨Nat.le_of_ble_eq_true rfl, Nat.le_of_ble_eq_true rfl⟩) rfl rfl rfl rfl rfl (Nat.le_of_ble_eq_true rfl) ⟨by show cells + 2 + 0 ≤ 600000; omega, by show slots + 23 + 0 ≤ 7302250; omega⟩) (fun y t2 hy => ?_)
  have hop := op_make hM hI hx (by rw [← hCG]; exact hy)
  refine gg_icmp_eq (tgt := 507) X dL_law_146 (by decide) (fun cc => ?_) (fun cc => ?_)
  · refine gg_wide (k := cells + 2) (n := slots + 23) (by show cells + 2 + 0 ≤ cells + 2; omega) (by show slots + 23 + 0 ≤ slots + 23; omega) ?_
    exact kk u2 t2 hop.2 (gm_make hy)
  · exact absurd hop.1 cc
set_option maxHeartbeats 4000000 in
set_option maxRecDepth 100000 in
theorem lc_grow {p : Program} {l : Launch} {e : Env} {s : State} {m : MethodId} {below : List Frame} {meth : Method} {c : Code} {D : va_G} {Q : State → Prop} {b L : Nat} {xs : Nat → Int32} {F : CF} {G : DF} (X : gx p s m #[Value.ref b] c code 4 RL wLW D vwCl (cT F ++ dT G) (aLW s)) (hX : va_X b L xs s s.heap) (hbl : b < s.heap.size) (hL : L ≤ 2049) (hCG : dC G = kC F) {u : CS} {t : DS} (hI : Iv F u t) (hM : gM t < 512) {i cells slots : Nat} (hi : i + 4 ≤ L) (hcs : cells + 2 ≤ 600000) (hss : slots + 23 ≤ 7302250)
    (kk : ∀ (u2 : CS) (t2 : DS), Iv F u2 t2 → gM t2 ≤ gM t + 1 → gg p l e room_1 s m #[Value.ref b] below meth c (cells + 2) (slots + 23) Q D vwCl (aLW s) 4 (cW F u2 ++ dW G t2) [(3, .int (nI i)), (2, .ref (dH G)), (1, .ref (kH F)), (0, .ref b)] 507 []) : gg p l e room_1 s m #[Value.ref b] below meth c cells slots Q D vwCl (aLW s) 4 (cW F u ++ dW G t) [(3, .int (nI i)), (2, .ref (dH G)), (1, .ref (kH F)), (0, .ref b)] 151 [] := by
  obtain ⟨rho, hRl, hc, hk⟩ := id hI
  have hC3 : dC G ≤ 3000 := by rw [hCG]; exact hc.2.2.1
  have hKc : va_K D vwCl (cT F) s := X.2.2.2.2.2.1.sub [0, 1] rfl
  have hKd : va_K D vwCl (dT G) s := X.2.2.2.2.2.1.sub [2, 3, 4] rfl
  refine gg_aload_n X dL_law_151 rfl 2 rfl ?_
  refine gg_aload_n X dL_law_152 rfl 3 rfl ?_
  refine gg_iload_n X dL_law_153 rfl 0 rfl ?_
  refine gg_iconst X dL_law_154 (v := nI 1) (by decide) ?_
  refine gg_iadd X dL_law_155 (nI_add _ _) ?_
  refine gg_sld X hX hbl dL_law_156 (i + 1) rfl (by omega) (by omega) ?_
  refine gg_aload_n X dL_law_157 rfl 3 rfl ?_
  refine gg_iload_n X dL_law_158 rfl 0 rfl ?_
  refine gg_iconst X dL_law_159 (v := nI 2) (by decide) ?_
  refine gg_iadd X dL_law_160 (nI_add _ _) ?_
  refine gg_sld X hX hbl dL_law_161 (i + 2) rfl (by omega) (by omega) ?_
  refine gc_iL X (gr_V (q0 := 0) X dL_law_162 hKc (k_grow l D F u hc (xs (i + 1)) (xs (i + 2))) (cwV 2 X.2.2.2.2.1 (gdV (al 93 rfl) (al 94 rfl) (al 253 rfl) (al 1 rfl) (al 95 rfl)) rfl rfl rfl (by decide +kernel) ⟨Nat.le_of_ble_eq_true rfl, Nat.le_of_ble_eq_true rfl⟩) rfl rfl rfl rfl rfl (Nat.le_of_ble_eq_true rfl) ⟨by show cells + 0 ≤ 600000; omega, by show slots + 0 ≤ 7302250; omega⟩) (fun x u2 hx => ?_)
  refine gg_aload_n X dL_law_165 rfl 1 rfl ?_
  refine gg_aload_n X dL_law_166 rfl 3 rfl ?_
  refine gg_iload_n X dL_law_167 rfl 0 rfl ?_
  refine gg_iconst X dL_law_168 (v := nI 1) (by decide) ?_
  refine gg_iadd X dL_law_169 (nI_add _ _) ?_
  refine gg_sld X hX hbl dL_law_170 (i + 1) rfl (by omega) (by omega) ?_
  refine gg_aload_n X dL_law_171 rfl 3 rfl ?_
  refine gg_iload_n X dL_law_172 rfl 0 rfl ?_
  refine gg_iconst X dL_law_173 (v := nI 2) (by decide) ?_
  refine gg_iadd X dL_law_174 (nI_add _ _) ?_
  refine gg_sld X hX hbl dL_law_175 (i + 2) rfl (by omega) (by omega) ?_
  refine gc_iR X (gr_V (q0 := 0) X dL_law_176 hKd (k_growd l D G t hk hC3 (xs (i + 1)) (xs (i + 2))) (cwV 2 X.2.2.2.2.1 (gdV (al 186 rfl) (al 187 rfl) (al 266 rfl) (al 4 rfl) (al 188 rfl)) rfl rfl rfl (by decide +kernel) ⟨Nat.le_of_ble_eq_true rfl, Nat.le_of_ble_eq_true rfl⟩) rfl rfl rfl rfl rfl (Nat.le_of_ble_eq_true rfl) ⟨by show cells + 0 + 0 ≤ 600000; omega, by show slots + 0 + 0 ≤ 7302250; omega⟩) (fun y t2 hy => ?_)
  have hop := op_grow hI hx (by rw [← hCG]; exact hy)
  refine gg_icmp_eq (tgt := 507) X dL_law_179 (by decide) (fun cc => ?_) (fun cc => ?_)
  · refine gg_wide (k := cells + 2) (n := slots + 23) (by show cells + 0 + 0 ≤ cells + 2; omega) (by show slots + 0 + 0 ≤ slots + 23; omega) ?_
    exact kk u2 t2 hop.2 (gm_grow hy)
  · exact absurd hop.1 cc
set_option maxHeartbeats 4000000 in
set_option maxRecDepth 100000 in
theorem lc_shrink {p : Program} {l : Launch} {e : Env} {s : State} {m : MethodId} {below : List Frame} {meth : Method} {c : Code} {D : va_G} {Q : State → Prop} {b L : Nat} {xs : Nat → Int32} {F : CF} {G : DF} (X : gx p s m #[Value.ref b] c code 4 RL wLW D vwCl (cT F ++ dT G) (aLW s)) (hX : va_X b L xs s s.heap) (hbl : b < s.heap.size) (hL : L ≤ 2049) (hCG : dC G = kC F) {u : CS} {t : DS} (hI : Iv F u t) (hM : gM t < 512) {i cells slots : Nat} (hi : i + 4 ≤ L) (hcs : cells + 2 ≤ 600000) (hss : slots + 23 ≤ 7302250)
    (kk : ∀ (u2 : CS) (t2 : DS), Iv F u2 t2 → gM t2 ≤ gM t + 1 → gg p l e room_1 s m #[Value.ref b] below meth c (cells + 2) (slots + 23) Q D vwCl (aLW s) 4 (cW F u2 ++ dW G t2) [(3, .int (nI i)), (2, .ref (dH G)), (1, .ref (kH F)), (0, .ref b)] 507 []) : gg p l e room_1 s m #[Value.ref b] below meth c cells slots Q D vwCl (aLW s) 4 (cW F u ++ dW G t) [(3, .int (nI i)), (2, .ref (dH G)), (1, .ref (kH F)), (0, .ref b)] 184 [] := by
  obtain ⟨rho, hRl, hc, hk⟩ := id hI
  have hC3 : dC G ≤ 3000 := by rw [hCG]; exact hc.2.2.1
  have hKc : va_K D vwCl (cT F) s := X.2.2.2.2.2.1.sub [0, 1] rfl
  have hKd : va_K D vwCl (dT G) s := X.2.2.2.2.2.1.sub [2, 3, 4] rfl
  refine gg_aload_n X dL_law_184 rfl 2 rfl ?_
  refine gg_aload_n X dL_law_185 rfl 3 rfl ?_
  refine gg_iload_n X dL_law_186 rfl 0 rfl ?_
  refine gg_iconst X dL_law_187 (v := nI 1) (by decide) ?_
  refine gg_iadd X dL_law_188 (nI_add _ _) ?_
  refine gg_sld X hX hbl dL_law_189 (i + 1) rfl (by omega) (by omega) ?_
  refine gc_iL X (gr_V (q0 := 0) X dL_law_190 hKc (k_shrink l D F u hc (xs (i + 1))) (cwV 1 X.2.2.2.2.1 (gdV (al 99 rfl) (al 100 rfl) (al 254 rfl) (al 1 rfl) (al 101 rfl)) rfl rfl rfl (by decide +kernel) ⟨Nat.le_of_ble_eq_true rfl, Nat.le_of_ble_eq_true rfl⟩) rfl rfl rfl rfl rfl (Nat.le_of_ble_eq_true rfl) ⟨by show cells + 0 ≤ 600000; omega, by show slots + 0 ≤ 7302250; omega⟩) (fun x u2 hx => ?_)
  refine gg_aload_n X dL_law_193 rfl 1 rfl ?_
  refine gg_aload_n X dL_law_194 rfl 3 rfl ?_
  refine gg_iload_n X dL_law_195 rfl 0 rfl ?_
  refine gg_iconst X dL_law_196 (v := nI 1) (by decide) ?_
  refine gg_iadd X dL_law_197 (nI_add _ _) ?_
  refine gg_sld X hX hbl dL_law_198 (i + 1) rfl (by omega) (by omega) ?_
  refine gc_iR X (gr_V (q0 := 0) X dL_law_199 hKd (k_shrinkd l D G t hk (xs (i + 1))) (cwV 1 X.2.2.2.2.1 (gdV (al 192 rfl) (al 193 rfl) (al 267 rfl) (al 4 rfl) (al 194 rfl)) rfl rfl rfl (by decide +kernel) ⟨Nat.le_of_ble_eq_true rfl, Nat.le_of_ble_eq_true rfl⟩) rfl rfl rfl rfl rfl (Nat.le_of_ble_eq_true rfl) ⟨by show cells + 0 + 0 ≤ 600000; omega, by show slots + 0 + 0 ≤ 7302250; omega⟩) (fun y t2 hy => ?_)
  have hop := op_shr hI hx hy
  refine gg_icmp_eq (tgt := 507) X dL_law_202 (by decide) (fun cc => ?_) (fun cc => ?_)
  · refine gg_wide (k := cells + 2) (n := slots + 23) (by show cells + 0 + 0 ≤ cells + 2; omega) (by show slots + 0 + 0 ≤ slots + 23; omega) ?_
    exact kk u2 t2 hop.2 (gm_shr hy)
  · exact absurd hop.1 cc
set_option maxHeartbeats 4000000 in
set_option maxRecDepth 100000 in
theorem lc_number {p : Program} {l : Launch} {e : Env} {s : State} {m : MethodId} {below : List Frame} {meth : Method} {c : Code} {D : va_G} {Q : State → Prop} {b L : Nat} {xs : Nat → Int32} {F : CF} {G : DF} (X : gx p s m #[Value.ref b] c code 4 RL wLW D vwCl (cT F ++ dT G) (aLW s)) (hX : va_X b L xs s s.heap) (hbl : b < s.heap.size) (hL : L ≤ 2049) (hCG : dC G = kC F) {u : CS} {t : DS} (hI : Iv F u t) (hM : gM t < 512) {i cells slots : Nat} (hi : i + 4 ≤ L) (hcs : cells + 2 ≤ 600000) (hss : slots + 23 ≤ 7302250)
    (kk : ∀ (u2 : CS) (t2 : DS), Iv F u2 t2 → gM t2 ≤ gM t + 1 → gg p l e room_1 s m #[Value.ref b] below meth c (cells + 2) (slots + 23) Q D vwCl (aLW s) 4 (cW F u2 ++ dW G t2) [(3, .int (nI i)), (2, .ref (dH G)), (1, .ref (kH F)), (0, .ref b)] 507 []) : gg p l e room_1 s m #[Value.ref b] below meth c cells slots Q D vwCl (aLW s) 4 (cW F u ++ dW G t) [(3, .int (nI i)), (2, .ref (dH G)), (1, .ref (kH F)), (0, .ref b)] 207 [] := by
  obtain ⟨rho, hRl, hc, hk⟩ := id hI
  have hC3 : dC G ≤ 3000 := by rw [hCG]; exact hc.2.2.1
  have hKc : va_K D vwCl (cT F) s := X.2.2.2.2.2.1.sub [0, 1] rfl
  have hKd : va_K D vwCl (dT G) s := X.2.2.2.2.2.1.sub [2, 3, 4] rfl
  refine gg_aload_n X dL_law_207 rfl 2 rfl ?_
  refine gg_aload_n X dL_law_208 rfl 3 rfl ?_
  refine gg_iload_n X dL_law_209 rfl 0 rfl ?_
  refine gg_iconst X dL_law_210 (v := nI 1) (by decide) ?_
  refine gg_iadd X dL_law_211 (nI_add _ _) ?_
  refine gg_sld X hX hbl dL_law_212 (i + 1) rfl (by omega) (by omega) ?_
  refine gg_aload_n X dL_law_213 rfl 3 rfl ?_
  refine gg_iload_n X dL_law_214 rfl 0 rfl ?_
  refine gg_iconst X dL_law_215 (v := nI 2) (by decide) ?_
  refine gg_iadd X dL_law_216 (nI_add _ _) ?_
  refine gg_sld X hX hbl dL_law_217 (i + 2) rfl (by omega) (by omega) ?_
  refine gc_iL X (gr_V (q0 := 0) X dL_law_218 hKc (k_number l D F u (xs (i + 1)) (xs (i + 2))) (cwV 2 X.2.2.2.2.1 (gdV (al 102 rfl) (al 103 rfl) (al 255 rfl) (al 1 rfl) (al 104 rfl)) rfl rfl rfl (by decide +kernel) ⟨Nat.le_of_ble_eq_true rfl, Nat.le_of_ble_eq_true rfl⟩) rfl rfl rfl rfl rfl (Nat.le_of_ble_eq_true rfl) ⟨by show cells + 0 ≤ 600000; omega, by show slots + 0 ≤ 7302250; omega⟩) (fun x u2 hx => ?_)
  refine gg_aload_n X dL_law_221 rfl 1 rfl ?_
  refine gg_aload_n X dL_law_222 rfl 3 rfl ?_
  refine gg_iload_n X dL_law_223 rfl 0 rfl ?_
  refine gg_iconst X dL_law_224 (v := nI 1) (by decide) ?_
  refine gg_iadd X dL_law_225 (nI_add _ _) ?_
  refine gg_sld X hX hbl dL_law_226 (i + 1) rfl (by omega) (by omega) ?_
  refine gg_aload_n X dL_law_227 rfl 3 rfl ?_
  refine gg_iload_n X dL_law_228 rfl 0 rfl ?_
  refine gg_iconst X dL_law_229 (v := nI 2) (by decide) ?_
  refine gg_iadd X dL_law_230 (nI_add _ _) ?_
  refine gg_sld X hX hbl dL_law_231 (i + 2) rfl (by omega) (by omega) ?_
  refine gc_iR X (gr_V (q0 := 0) X dL_law_232 hKd (k_numberd l D G t (xs (i + 1)) (xs (i + 2))) (cwV 2 X.2.2.2.2.1 (gdV (al 198 rfl) (al 199 rfl) (al 268 rfl) (al 4 rfl) (al 200 rfl)) rfl rfl rfl (by decide +kernel) ⟨Nat.le_of_ble_eq_true rfl, Nat.le_of_ble_eq_true rfl⟩) rfl rfl rfl rfl rfl (Nat.le_of_ble_eq_true rfl) ⟨by show cells + 0 + 0 ≤ 600000; omega, by show slots + 0 + 0 ≤ 7302250; omega⟩) (fun y t2 hy => ?_)
  have hop := op_num hI hx hy
  refine gg_icmp_eq (tgt := 507) X dL_law_235 (by decide) (fun cc => ?_) (fun cc => ?_)
  · refine gg_wide (k := cells + 2) (n := slots + 23) (by show cells + 0 + 0 ≤ cells + 2; omega) (by show slots + 0 + 0 ≤ slots + 23; omega) ?_
    exact kk u2 t2 hop.2 (gm_num hy)
  · exact absurd hop.1 cc
set_option maxHeartbeats 4000000 in
set_option maxRecDepth 100000 in
theorem lc_copy {p : Program} {l : Launch} {e : Env} {s : State} {m : MethodId} {below : List Frame} {meth : Method} {c : Code} {D : va_G} {Q : State → Prop} {b L : Nat} {xs : Nat → Int32} {F : CF} {G : DF} (X : gx p s m #[Value.ref b] c code 4 RL wLW D vwCl (cT F ++ dT G) (aLW s)) (hX : va_X b L xs s s.heap) (hbl : b < s.heap.size) (hL : L ≤ 2049) (hCG : dC G = kC F) {u : CS} {t : DS} (hI : Iv F u t) (hM : gM t < 512) {i cells slots : Nat} (hi : i + 4 ≤ L) (hcs : cells + 2 ≤ 600000) (hss : slots + 23 ≤ 7302250)
    (kk : ∀ (u2 : CS) (t2 : DS), Iv F u2 t2 → gM t2 ≤ gM t + 1 → gg p l e room_1 s m #[Value.ref b] below meth c (cells + 2) (slots + 23) Q D vwCl (aLW s) 4 (cW F u2 ++ dW G t2) [(3, .int (nI i)), (2, .ref (dH G)), (1, .ref (kH F)), (0, .ref b)] 507 []) : gg p l e room_1 s m #[Value.ref b] below meth c cells slots Q D vwCl (aLW s) 4 (cW F u ++ dW G t) [(3, .int (nI i)), (2, .ref (dH G)), (1, .ref (kH F)), (0, .ref b)] 240 [] := by
  obtain ⟨rho, hRl, hc, hk⟩ := id hI
  have hC3 : dC G ≤ 3000 := by rw [hCG]; exact hc.2.2.1
  have hKc : va_K D vwCl (cT F) s := X.2.2.2.2.2.1.sub [0, 1] rfl
  have hKd : va_K D vwCl (dT G) s := X.2.2.2.2.2.1.sub [2, 3, 4] rfl
  refine gg_aload_n X dL_law_240 rfl 2 rfl ?_
  refine gg_aload_n X dL_law_241 rfl 3 rfl ?_
  refine gg_iload_n X dL_law_242 rfl 0 rfl ?_
  refine gg_iconst X dL_law_243 (v := nI 1) (by decide) ?_
  refine gg_iadd X dL_law_244 (nI_add _ _) ?_
  refine gg_sld X hX hbl dL_law_245 (i + 1) rfl (by omega) (by omega) ?_
  refine gg_aload_n X dL_law_246 rfl 3 rfl ?_
  refine gg_iload_n X dL_law_247 rfl 0 rfl ?_
  refine gg_iconst X dL_law_248 (v := nI 2) (by decide) ?_
  refine gg_iadd X dL_law_249 (nI_add _ _) ?_
  refine gg_sld X hX hbl dL_law_250 (i + 2) rfl (by omega) (by omega) ?_
  refine gc_iL X (gr_V (q0 := 0) X dL_law_251 hKc (k_copy l D F u (xs (i + 1)) (xs (i + 2))) (cwV 2 X.2.2.2.2.1 (gdV (al 105 rfl) (al 106 rfl) (al 256 rfl) (al 1 rfl) (al 107 rfl)) rfl rfl rfl (by decide +kernel) ⟨Nat.le_of_ble_eq_true rfl, Nat.le_of_ble_eq_true rfl⟩) rfl rfl rfl rfl rfl (Nat.le_of_ble_eq_true rfl) ⟨by show cells + 0 ≤ 600000; omega, by show slots + 0 ≤ 7302250; omega⟩) (fun x u2 hx => ?_)
  refine gg_aload_n X dL_law_254 rfl 1 rfl ?_
  refine gg_aload_n X dL_law_255 rfl 3 rfl ?_
  refine gg_iload_n X dL_law_256 rfl 0 rfl ?_
  refine gg_iconst X dL_law_257 (v := nI 1) (by decide) ?_
  refine gg_iadd X dL_law_258 (nI_add _ _) ?_
  refine gg_sld X hX hbl dL_law_259 (i + 1) rfl (by omega) (by omega) ?_
  refine gg_aload_n X dL_law_260 rfl 3 rfl ?_
  refine gg_iload_n X dL_law_261 rfl 0 rfl ?_
  refine gg_iconst X dL_law_262 (v := nI 2) (by decide) ?_
  refine gg_iadd X dL_law_263 (nI_add _ _) ?_
  refine gg_sld X hX hbl dL_law_264 (i + 2) rfl (by omega) (by omega) ?_
  refine gc_iR X (gr_V (q0 := 0) X dL_law_265 hKd (k_copyd l D G t hk (xs (i + 1)) (xs (i + 2))) (cwV 2 X.2.2.2.2.1 (gdV (al 201 rfl) (al 202 rfl) (al 269 rfl) (al 4 rfl) (al 203 rfl)) rfl rfl rfl (by decide +kernel) ⟨Nat.le_of_ble_eq_true rfl, Nat.le_of_ble_eq_true rfl⟩) rfl rfl rfl rfl rfl (Nat.le_of_ble_eq_true rfl) ⟨by show cells + 0 + 0 ≤ 600000; omega, by show slots + 0 + 0 ≤ 7302250; omega⟩) (fun y t2 hy => ?_)
  have hop := op_copy hI hx hy
  refine gg_icmp_eq (tgt := 507) X dL_law_268 (by decide) (fun cc => ?_) (fun cc => ?_)
  · refine gg_wide (k := cells + 2) (n := slots + 23) (by show cells + 0 + 0 ≤ cells + 2; omega) (by show slots + 0 + 0 ≤ slots + 23; omega) ?_
    exact kk u2 t2 hop.2 (gm_copy hy)
  · exact absurd hop.1 cc
set_option maxHeartbeats 4000000 in
set_option maxRecDepth 100000 in
theorem lc_get {p : Program} {l : Launch} {e : Env} {s : State} {m : MethodId} {below : List Frame} {meth : Method} {c : Code} {D : va_G} {Q : State → Prop} {b L : Nat} {xs : Nat → Int32} {F : CF} {G : DF} (X : gx p s m #[Value.ref b] c code 4 RL wLW D vwCl (cT F ++ dT G) (aLW s)) (hX : va_X b L xs s s.heap) (hbl : b < s.heap.size) (hL : L ≤ 2049) (hCG : dC G = kC F) {u : CS} {t : DS} (hI : Iv F u t) (hM : gM t < 512) {i cells slots : Nat} (hi : i + 4 ≤ L) (hcs : cells + 2 ≤ 600000) (hss : slots + 23 ≤ 7302250)
    (kk : ∀ (u2 : CS) (t2 : DS), Iv F u2 t2 → gM t2 ≤ gM t + 1 → gg p l e room_1 s m #[Value.ref b] below meth c (cells + 2) (slots + 23) Q D vwCl (aLW s) 4 (cW F u2 ++ dW G t2) [(3, .int (nI i)), (2, .ref (dH G)), (1, .ref (kH F)), (0, .ref b)] 507 []) : gg p l e room_1 s m #[Value.ref b] below meth c cells slots Q D vwCl (aLW s) 4 (cW F u ++ dW G t) [(3, .int (nI i)), (2, .ref (dH G)), (1, .ref (kH F)), (0, .ref b)] 273 [] := by
  obtain ⟨rho, hRl, hc, hk⟩ := id hI
  have hC3 : dC G ≤ 3000 := by rw [hCG]; exact hc.2.2.1
  have hKc : va_K D vwCl (cT F) s := X.2.2.2.2.2.1.sub [0, 1] rfl
  have hKd : va_K D vwCl (dT G) s := X.2.2.2.2.2.1.sub [2, 3, 4] rfl
  refine gg_aload_n X dL_law_273 rfl 2 rfl ?_
  refine gg_aload_n X dL_law_274 rfl 3 rfl ?_
  refine gg_iload_n X dL_law_275 rfl 0 rfl ?_
  refine gg_iconst X dL_law_276 (v := nI 1) (by decide) ?_
  refine gg_iadd X dL_law_277 (nI_add _ _) ?_
  refine gg_sld X hX hbl dL_law_278 (i + 1) rfl (by omega) (by omega) ?_
  refine gg_aload_n X dL_law_279 rfl 3 rfl ?_
  refine gg_iload_n X dL_law_280 rfl 0 rfl ?_
  refine gg_iconst X dL_law_281 (v := nI 2) (by decide) ?_
  refine gg_iadd X dL_law_282 (nI_add _ _) ?_
  refine gg_sld X hX hbl dL_law_283 (i + 2) rfl (by omega) (by omega) ?_
  refine gg_aload_n X dL_law_284 rfl 3 rfl ?_
  refine gg_iload_n X dL_law_285 rfl 0 rfl ?_
  refine gg_iconst X dL_law_286 (v := nI 3) (by decide) ?_
  refine gg_iadd X dL_law_287 (nI_add _ _) ?_
  refine gg_sld X hX hbl dL_law_288 (i + 3) rfl (by omega) (by omega) ?_
  refine gc_iL X (gr_V (q0 := 0) X dL_law_289 hKc (k_get l D F u hc (xs (i + 1)) (xs (i + 2)) (xs (i + 3))) (cwV 3 X.2.2.2.2.1 (gdV (al 108 rfl) (al 109 rfl) (al 257 rfl) (al 1 rfl) (al 110 rfl)) rfl rfl rfl (by decide +kernel) ⟨Nat.le_of_ble_eq_true rfl, Nat.le_of_ble_eq_true rfl⟩) rfl rfl rfl rfl rfl (Nat.le_of_ble_eq_true rfl) ⟨by show cells + 0 ≤ 600000; omega, by show slots + 0 ≤ 7302250; omega⟩) (fun x u2 hx => ?_)
  refine gg_aload_n X dL_law_292 rfl 1 rfl ?_
  refine gg_aload_n X dL_law_293 rfl 3 rfl ?_
  refine gg_iload_n X dL_law_294 rfl 0 rfl ?_
  refine gg_iconst X dL_law_295 (v := nI 1) (by decide) ?_
  refine gg_iadd X dL_law_296 (nI_add _ _) ?_
  refine gg_sld X hX hbl dL_law_297 (i + 1) rfl (by omega) (by omega) ?_
  refine gg_aload_n X dL_law_298 rfl 3 rfl ?_
  refine gg_iload_n X dL_law_299 rfl 0 rfl ?_
  refine gg_iconst X dL_law_300 (v := nI 2) (by decide) ?_
  refine gg_iadd X dL_law_301 (nI_add _ _) ?_
  refine gg_sld X hX hbl dL_law_302 (i + 2) rfl (by omega) (by omega) ?_
  refine gg_aload_n X dL_law_303 rfl 3 rfl ?_
  refine gg_iload_n X dL_law_304 rfl 0 rfl ?_
  refine gg_iconst X dL_law_305 (v := nI 3) (by decide) ?_
  refine gg_iadd X dL_law_306 (nI_add _ _) ?_
  refine gg_sld X hX hbl dL_law_307 (i + 3) rfl (by omega) (by omega) ?_
  refine gc_iR X (gr_V (q0 := 0) X dL_law_308 hKd (k_getd l D G t hk (xs (i + 1)) (xs (i + 2)) (xs (i + 3))) (cwV 3 X.2.2.2.2.1 (gdV (al 204 rfl) (al 205 rfl) (al 270 rfl) (al 4 rfl) (al 206 rfl)) rfl rfl rfl (by decide +kernel) ⟨Nat.le_of_ble_eq_true rfl, Nat.le_of_ble_eq_true rfl⟩) rfl rfl rfl rfl rfl (Nat.le_of_ble_eq_true rfl) ⟨by show cells + 0 + 0 ≤ 600000; omega, by show slots + 0 + 0 ≤ 7302250; omega⟩) (fun y t2 hy => ?_)
  have hop := op_get hI hx hy
  refine gg_icmp_eq (tgt := 507) X dL_law_311 (by decide) (fun cc => ?_) (fun cc => ?_)
  · refine gg_wide (k := cells + 2) (n := slots + 23) (by show cells + 0 + 0 ≤ cells + 2; omega) (by show slots + 0 + 0 ≤ slots + 23; omega) ?_
    exact kk u2 t2 hop.2 (gm_get hy)
  · exact absurd hop.1 cc
set_option maxHeartbeats 4000000 in
set_option maxRecDepth 100000 in
theorem lc_set {p : Program} {l : Launch} {e : Env} {s : State} {m : MethodId} {below : List Frame} {meth : Method} {c : Code} {D : va_G} {Q : State → Prop} {b L : Nat} {xs : Nat → Int32} {F : CF} {G : DF} (X : gx p s m #[Value.ref b] c code 4 RL wLW D vwCl (cT F ++ dT G) (aLW s)) (hX : va_X b L xs s s.heap) (hbl : b < s.heap.size) (hL : L ≤ 2049) (hCG : dC G = kC F) {u : CS} {t : DS} (hI : Iv F u t) (hM : gM t < 512) {i cells slots : Nat} (hi : i + 4 ≤ L) (hcs : cells + 2 ≤ 600000) (hss : slots + 23 ≤ 7302250)
    (kk : ∀ (u2 : CS) (t2 : DS), Iv F u2 t2 → gM t2 ≤ gM t + 1 → gg p l e room_1 s m #[Value.ref b] below meth c (cells + 2) (slots + 23) Q D vwCl (aLW s) 4 (cW F u2 ++ dW G t2) [(3, .int (nI i)), (2, .ref (dH G)), (1, .ref (kH F)), (0, .ref b)] 507 []) : gg p l e room_1 s m #[Value.ref b] below meth c cells slots Q D vwCl (aLW s) 4 (cW F u ++ dW G t) [(3, .int (nI i)), (2, .ref (dH G)), (1, .ref (kH F)), (0, .ref b)] 316 [] := by
  obtain ⟨rho, hRl, hc, hk⟩ := id hI
  have hC3 : dC G ≤ 3000 := by rw [hCG]; exact hc.2.2.1
  have hKc : va_K D vwCl (cT F) s := X.2.2.2.2.2.1.sub [0, 1] rfl
  have hKd : va_K D vwCl (dT G) s := X.2.2.2.2.2.1.sub [2, 3, 4] rfl
  refine gg_aload_n X dL_law_316 rfl 2 rfl ?_
  refine gg_aload_n X dL_law_317 rfl 3 rfl ?_
  refine gg_iload_n X dL_law_318 rfl 0 rfl ?_
  refine gg_iconst X dL_law_319 (v := nI 1) (by decide) ?_
  refine gg_iadd X dL_law_320 (nI_add _ _) ?_
  refine gg_sld X hX hbl dL_law_321 (i + 1) rfl (by omega) (by omega) ?_
  refine gg_aload_n X dL_law_322 rfl 3 rfl ?_
  refine gg_iload_n X dL_law_323 rfl 0 rfl ?_
  refine gg_iconst X dL_law_324 (v := nI 2) (by decide) ?_
  refine gg_iadd X dL_law_325 (nI_add _ _) ?_
  refine gg_sld X hX hbl dL_law_326 (i + 2) rfl (by omega) (by omega) ?_
  refine gg_aload_n X dL_law_327 rfl 3 rfl ?_
  refine gg_iload_n X dL_law_328 rfl 0 rfl ?_
  refine gg_iconst X dL_law_329 (v := nI 3) (by decide) ?_
  refine gg_iadd X dL_law_330 (nI_add _ _) ?_
  refine gg_sld X hX hbl dL_law_331 (i + 3) rfl (by omega) (by omega) ?_
  refine gc_iL X (gr_V (q0 := 0) X dL_law_332 hKc (k_set l D F u hc (xs (i + 1)) (xs (i + 2)) (xs (i + 3))) (cwV 3 X.2.2.2.2.1 (gdV (al 113 rfl) (al 114 rfl) (al 258 rfl) (al 1 rfl) (al 115 rfl)) rfl rfl rfl (by decide +kernel) ⟨Nat.le_of_ble_eq_true rfl, Nat.le_of_ble_eq_true rfl⟩) rfl rfl rfl rfl rfl (Nat.le_of_ble_eq_true rfl) ⟨by show cells + 0 ≤ 600000; omega, by show slots + 0 ≤ 7302250; omega⟩) (fun x u2 hx => ?_)
  refine gg_aload_n X dL_law_335 rfl 1 rfl ?_
  refine gg_aload_n X dL_law_336 rfl 3 rfl ?_
  refine gg_iload_n X dL_law_337 rfl 0 rfl ?_
  refine gg_iconst X dL_law_338 (v := nI 1) (by decide) ?_
  refine gg_iadd X dL_law_339 (nI_add _ _) ?_
  refine gg_sld X hX hbl dL_law_340 (i + 1) rfl (by omega) (by omega) ?_
  refine gg_aload_n X dL_law_341 rfl 3 rfl ?_
  refine gg_iload_n X dL_law_342 rfl 0 rfl ?_
  refine gg_iconst X dL_law_343 (v := nI 2) (by decide) ?_
  refine gg_iadd X dL_law_344 (nI_add _ _) ?_
  refine gg_sld X hX hbl dL_law_345 (i + 2) rfl (by omega) (by omega) ?_
  refine gg_aload_n X dL_law_346 rfl 3 rfl ?_
  refine gg_iload_n X dL_law_347 rfl 0 rfl ?_
  refine gg_iconst X dL_law_348 (v := nI 3) (by decide) ?_
  refine gg_iadd X dL_law_349 (nI_add _ _) ?_
  refine gg_sld X hX hbl dL_law_350 (i + 3) rfl (by omega) (by omega) ?_
  refine gc_iR X (gr_V (q0 := 0) X dL_law_351 hKd (k_setd l D G t hk (xs (i + 1)) (xs (i + 2)) (xs (i + 3))) (cwV 3 X.2.2.2.2.1 (gdV (al 210 rfl) (al 211 rfl) (al 271 rfl) (al 4 rfl) (al 212 rfl)) rfl rfl rfl (by decide +kernel) ⟨Nat.le_of_ble_eq_true rfl, Nat.le_of_ble_eq_true rfl⟩) rfl rfl rfl rfl rfl (Nat.le_of_ble_eq_true rfl) ⟨by show cells + 0 + 0 ≤ 600000; omega, by show slots + 0 + 0 ≤ 7302250; omega⟩) (fun y t2 hy => ?_)
  have hop := op_set hI hx hy
  refine gg_icmp_eq (tgt := 507) X dL_law_354 (by decide) (fun cc => ?_) (fun cc => ?_)
  · refine gg_wide (k := cells + 2) (n := slots + 23) (by show cells + 0 + 0 ≤ cells + 2; omega) (by show slots + 0 + 0 ≤ slots + 23; omega) ?_
    exact kk u2 t2 hop.2 (gm_set hy)
  · exact absurd hop.1 cc
set_option maxHeartbeats 4000000 in
set_option maxRecDepth 100000 in
theorem lc_push {p : Program} {l : Launch} {e : Env} {s : State} {m : MethodId} {below : List Frame} {meth : Method} {c : Code} {D : va_G} {Q : State → Prop} {b L : Nat} {xs : Nat → Int32} {F : CF} {G : DF} (X : gx p s m #[Value.ref b] c code 4 RL wLW D vwCl (cT F ++ dT G) (aLW s)) (hX : va_X b L xs s s.heap) (hbl : b < s.heap.size) (hL : L ≤ 2049) (hCG : dC G = kC F) {u : CS} {t : DS} (hI : Iv F u t) (hM : gM t < 512) {i cells slots : Nat} (hi : i + 4 ≤ L) (hcs : cells + 2 ≤ 600000) (hss : slots + 23 ≤ 7302250)
    (kk : ∀ (u2 : CS) (t2 : DS), Iv F u2 t2 → gM t2 ≤ gM t + 1 → gg p l e room_1 s m #[Value.ref b] below meth c (cells + 2) (slots + 23) Q D vwCl (aLW s) 4 (cW F u2 ++ dW G t2) [(3, .int (nI i)), (2, .ref (dH G)), (1, .ref (kH F)), (0, .ref b)] 507 []) : gg p l e room_1 s m #[Value.ref b] below meth c cells slots Q D vwCl (aLW s) 4 (cW F u ++ dW G t) [(3, .int (nI i)), (2, .ref (dH G)), (1, .ref (kH F)), (0, .ref b)] 359 [] := by
  obtain ⟨rho, hRl, hc, hk⟩ := id hI
  have hC3 : dC G ≤ 3000 := by rw [hCG]; exact hc.2.2.1
  have hKc : va_K D vwCl (cT F) s := X.2.2.2.2.2.1.sub [0, 1] rfl
  have hKd : va_K D vwCl (dT G) s := X.2.2.2.2.2.1.sub [2, 3, 4] rfl
  refine gg_aload_n X dL_law_359 rfl 2 rfl ?_
  refine gg_aload_n X dL_law_360 rfl 3 rfl ?_
  refine gg_iload_n X dL_law_361 rfl 0 rfl ?_
  refine gg_iconst X dL_law_362 (v := nI 1) (by decide) ?_
  refine gg_iadd X dL_law_363 (nI_add _ _) ?_
  refine gg_sld X hX hbl dL_law_364 (i + 1) rfl (by omega) (by omega) ?_
  refine gc_iL X (gr_V (q0 := 0) X dL_law_365 hKc (k_push l D F u hc (xs (i + 1))) (cwV 1 X.2.2.2.2.1 (gdV (al 116 rfl) (al 117 rfl) (al 259 rfl) (al 1 rfl) (al 118 rfl)) rfl rfl rfl (by decide +kernel) ⟨Nat.le_of_ble_eq_true rfl, Nat.le_of_ble_eq_true rfl⟩) rfl rfl rfl rfl rfl (Nat.le_of_ble_eq_true rfl) ⟨by show cells + 0 ≤ 600000; omega, by show slots + 0 ≤ 7302250; omega⟩) (fun x u2 hx => ?_)
  refine gg_aload_n X dL_law_368 rfl 1 rfl ?_
  refine gg_aload_n X dL_law_369 rfl 3 rfl ?_
  refine gg_iload_n X dL_law_370 rfl 0 rfl ?_
  refine gg_iconst X dL_law_371 (v := nI 1) (by decide) ?_
  refine gg_iadd X dL_law_372 (nI_add _ _) ?_
  refine gg_sld X hX hbl dL_law_373 (i + 1) rfl (by omega) (by omega) ?_
  refine gc_iR X (gr_V (q0 := 0) X dL_law_374 hKd (k_pushd l D G t hk (xs (i + 1))) (cwV 1 X.2.2.2.2.1 (gdV (al 213 rfl) (al 214 rfl) (al 272 rfl) (al 4 rfl) (al 215 rfl)) rfl rfl rfl (by decide +kernel) ⟨Nat.le_of_ble_eq_true rfl, Nat.le_of_ble_eq_true rfl⟩) rfl rfl rfl rfl rfl (Nat.le_of_ble_eq_true rfl) ⟨by show cells + 0 + 0 ≤ 600000; omega, by show slots + 0 + 0 ≤ 7302250; omega⟩) (fun y t2 hy => ?_)
  have hop := op_push hI hx hy
  refine gg_icmp_eq (tgt := 507) X dL_law_377 (by decide) (fun cc => ?_) (fun cc => ?_)
  · refine gg_wide (k := cells + 2) (n := slots + 23) (by show cells + 0 + 0 ≤ cells + 2; omega) (by show slots + 0 + 0 ≤ slots + 23; omega) ?_
    exact kk u2 t2 hop.2 (gm_push hy)
  · exact absurd hop.1 cc
set_option maxHeartbeats 4000000 in
set_option maxRecDepth 100000 in
theorem lc_pop {p : Program} {l : Launch} {e : Env} {s : State} {m : MethodId} {below : List Frame} {meth : Method} {c : Code} {D : va_G} {Q : State → Prop} {b L : Nat} {xs : Nat → Int32} {F : CF} {G : DF} (X : gx p s m #[Value.ref b] c code 4 RL wLW D vwCl (cT F ++ dT G) (aLW s)) (hX : va_X b L xs s s.heap) (hbl : b < s.heap.size) (hL : L ≤ 2049) (hCG : dC G = kC F) {u : CS} {t : DS} (hI : Iv F u t) (hM : gM t < 512) {i cells slots : Nat} (hi : i + 4 ≤ L) (hcs : cells + 2 ≤ 600000) (hss : slots + 23 ≤ 7302250)
    (kk : ∀ (u2 : CS) (t2 : DS), Iv F u2 t2 → gM t2 ≤ gM t + 1 → gg p l e room_1 s m #[Value.ref b] below meth c (cells + 2) (slots + 23) Q D vwCl (aLW s) 4 (cW F u2 ++ dW G t2) [(3, .int (nI i)), (2, .ref (dH G)), (1, .ref (kH F)), (0, .ref b)] 507 []) : gg p l e room_1 s m #[Value.ref b] below meth c cells slots Q D vwCl (aLW s) 4 (cW F u ++ dW G t) [(3, .int (nI i)), (2, .ref (dH G)), (1, .ref (kH F)), (0, .ref b)] 382 [] := by
  obtain ⟨rho, hRl, hc, hk⟩ := id hI
  have hC3 : dC G ≤ 3000 := by rw [hCG]; exact hc.2.2.1
  have hKc : va_K D vwCl (cT F) s := X.2.2.2.2.2.1.sub [0, 1] rfl
  have hKd : va_K D vwCl (dT G) s := X.2.2.2.2.2.1.sub [2, 3, 4] rfl
  refine gg_aload_n X dL_law_382 rfl 2 rfl ?_
  refine gg_aload_n X dL_law_383 rfl 3 rfl ?_
  refine gg_iload_n X dL_law_384 rfl 0 rfl ?_
  refine gg_iconst X dL_law_385 (v := nI 1) (by decide) ?_
  refine gg_iadd X dL_law_386 (nI_add _ _) ?_
  refine gg_sld X hX hbl dL_law_387 (i + 1) rfl (by omega) (by omega) ?_
  refine gc_iL X (gr_V (q0 := 0) X dL_law_388 hKc (k_pop l D F u hc (xs (i + 1))) (cwV 1 X.2.2.2.2.1 (gdV (al 119 rfl) (al 120 rfl) (al 260 rfl) (al 1 rfl) (al 121 rfl)) rfl rfl rfl (by decide +kernel) ⟨Nat.le_of_ble_eq_true rfl, Nat.le_of_ble_eq_true rfl⟩) rfl rfl rfl rfl rfl (Nat.le_of_ble_eq_true rfl) ⟨by show cells + 0 ≤ 600000; omega, by show slots + 0 ≤ 7302250; omega⟩) (fun x u2 hx => ?_)
  refine gg_aload_n X dL_law_391 rfl 1 rfl ?_
  refine gg_aload_n X dL_law_392 rfl 3 rfl ?_
  refine gg_iload_n X dL_law_393 rfl 0 rfl ?_
  refine gg_iconst X dL_law_394 (v := nI 1) (by decide) ?_
  refine gg_iadd X dL_law_395 (nI_add _ _) ?_
  refine gg_sld X hX hbl dL_law_396 (i + 1) rfl (by omega) (by omega) ?_
  refine gc_iR X (gr_V (q0 := 0) X dL_law_397 hKd (k_popd l D G t hk (xs (i + 1))) (cwV 1 X.2.2.2.2.1 (gdV (al 216 rfl) (al 217 rfl) (al 273 rfl) (al 4 rfl) (al 218 rfl)) rfl rfl rfl (by decide +kernel) ⟨Nat.le_of_ble_eq_true rfl, Nat.le_of_ble_eq_true rfl⟩) rfl rfl rfl rfl rfl (Nat.le_of_ble_eq_true rfl) ⟨by show cells + 0 + 0 ≤ 600000; omega, by show slots + 0 + 0 ≤ 7302250; omega⟩) (fun y t2 hy => ?_)
  have hop := op_pop hI hx hy
  refine gg_icmp_eq (tgt := 507) X dL_law_400 (by decide) (fun cc => ?_) (fun cc => ?_)
  · refine gg_wide (k := cells + 2) (n := slots + 23) (by show cells + 0 + 0 ≤ cells + 2; omega) (by show slots + 0 + 0 ≤ slots + 23; omega) ?_
    exact kk u2 t2 hop.2 (gm_pop hy)
  · exact absurd hop.1 cc
set_option maxHeartbeats 4000000 in
set_option maxRecDepth 100000 in
theorem lc_look {p : Program} {l : Launch} {e : Env} {s : State} {m : MethodId} {below : List Frame} {meth : Method} {c : Code} {D : va_G} {Q : State → Prop} {b L : Nat} {xs : Nat → Int32} {F : CF} {G : DF} (X : gx p s m #[Value.ref b] c code 4 RL wLW D vwCl (cT F ++ dT G) (aLW s)) (hX : va_X b L xs s s.heap) (hbl : b < s.heap.size) (hL : L ≤ 2049) (hCG : dC G = kC F) {u : CS} {t : DS} (hI : Iv F u t) (hM : gM t < 512) {i cells slots : Nat} (hi : i + 4 ≤ L) (hcs : cells + 2 ≤ 600000) (hss : slots + 23 ≤ 7302250)
    (kk : ∀ (u2 : CS) (t2 : DS), Iv F u2 t2 → gM t2 ≤ gM t + 1 → gg p l e room_1 s m #[Value.ref b] below meth c (cells + 2) (slots + 23) Q D vwCl (aLW s) 4 (cW F u2 ++ dW G t2) [(3, .int (nI i)), (2, .ref (dH G)), (1, .ref (kH F)), (0, .ref b)] 507 []) : gg p l e room_1 s m #[Value.ref b] below meth c cells slots Q D vwCl (aLW s) 4 (cW F u ++ dW G t) [(3, .int (nI i)), (2, .ref (dH G)), (1, .ref (kH F)), (0, .ref b)] 405 [] := by
  obtain ⟨rho, hRl, hc, hk⟩ := id hI
  have hC3 : dC G ≤ 3000 := by rw [hCG]; exact hc.2.2.1
  have hKc : va_K D vwCl (cT F) s := X.2.2.2.2.2.1.sub [0, 1] rfl
  have hKd : va_K D vwCl (dT G) s := X.2.2.2.2.2.1.sub [2, 3, 4] rfl
  refine gg_aload_n X dL_law_405 rfl 2 rfl ?_
  refine gg_aload_n X dL_law_406 rfl 3 rfl ?_
  refine gg_iload_n X dL_law_407 rfl 0 rfl ?_
  refine gg_iconst X dL_law_408 (v := nI 1) (by decide) ?_
  refine gg_iadd X dL_law_409 (nI_add _ _) ?_
  refine gg_sld X hX hbl dL_law_410 (i + 1) rfl (by omega) (by omega) ?_
  refine gc_iL X (gr_V (q0 := 0) X dL_law_411 hKc (k_look l D F u hc (xs (i + 1))) (cwV 1 X.2.2.2.2.1 (gdV (al 122 rfl) (al 123 rfl) (al 261 rfl) (al 1 rfl) (al 124 rfl)) rfl rfl rfl (by decide +kernel) ⟨Nat.le_of_ble_eq_true rfl, Nat.le_of_ble_eq_true rfl⟩) rfl rfl rfl rfl rfl (Nat.le_of_ble_eq_true rfl) ⟨by show cells + 0 ≤ 600000; omega, by show slots + 0 ≤ 7302250; omega⟩) (fun x u2 hx => ?_)
  refine gg_aload_n X dL_law_414 rfl 1 rfl ?_
  refine gg_aload_n X dL_law_415 rfl 3 rfl ?_
  refine gg_iload_n X dL_law_416 rfl 0 rfl ?_
  refine gg_iconst X dL_law_417 (v := nI 1) (by decide) ?_
  refine gg_iadd X dL_law_418 (nI_add _ _) ?_
  refine gg_sld X hX hbl dL_law_419 (i + 1) rfl (by omega) (by omega) ?_
  refine gc_iR X (gr_V (q0 := 0) X dL_law_420 hKd (k_lookd l D G t hk (xs (i + 1))) (cwV 1 X.2.2.2.2.1 (gdV (al 219 rfl) (al 220 rfl) (al 274 rfl) (al 4 rfl) (al 221 rfl)) rfl rfl rfl (by decide +kernel) ⟨Nat.le_of_ble_eq_true rfl, Nat.le_of_ble_eq_true rfl⟩) rfl rfl rfl rfl rfl (Nat.le_of_ble_eq_true rfl) ⟨by show cells + 0 + 0 ≤ 600000; omega, by show slots + 0 + 0 ≤ 7302250; omega⟩) (fun y t2 hy => ?_)
  have hop := op_look hI hx hy
  refine gg_icmp_eq (tgt := 507) X dL_law_423 (by decide) (fun cc => ?_) (fun cc => ?_)
  · refine gg_wide (k := cells + 2) (n := slots + 23) (by show cells + 0 + 0 ≤ cells + 2; omega) (by show slots + 0 + 0 ≤ slots + 23; omega) ?_
    exact kk u2 t2 hop.2 (gm_look hy)
  · exact absurd hop.1 cc
set_option maxHeartbeats 4000000 in
set_option maxRecDepth 100000 in
theorem lc_numberIn {p : Program} {l : Launch} {e : Env} {s : State} {m : MethodId} {below : List Frame} {meth : Method} {c : Code} {D : va_G} {Q : State → Prop} {b L : Nat} {xs : Nat → Int32} {F : CF} {G : DF} (X : gx p s m #[Value.ref b] c code 4 RL wLW D vwCl (cT F ++ dT G) (aLW s)) (hX : va_X b L xs s s.heap) (hbl : b < s.heap.size) (hL : L ≤ 2049) (hCG : dC G = kC F) {u : CS} {t : DS} (hI : Iv F u t) (hM : gM t < 512) {i cells slots : Nat} (hi : i + 4 ≤ L) (hcs : cells + 2 ≤ 600000) (hss : slots + 23 ≤ 7302250)
    (kk : ∀ (u2 : CS) (t2 : DS), Iv F u2 t2 → gM t2 ≤ gM t + 1 → gg p l e room_1 s m #[Value.ref b] below meth c (cells + 2) (slots + 23) Q D vwCl (aLW s) 4 (cW F u2 ++ dW G t2) [(3, .int (nI i)), (2, .ref (dH G)), (1, .ref (kH F)), (0, .ref b)] 507 []) : gg p l e room_1 s m #[Value.ref b] below meth c cells slots Q D vwCl (aLW s) 4 (cW F u ++ dW G t) [(3, .int (nI i)), (2, .ref (dH G)), (1, .ref (kH F)), (0, .ref b)] 428 [] := by
  obtain ⟨rho, hRl, hc, hk⟩ := id hI
  have hC3 : dC G ≤ 3000 := by rw [hCG]; exact hc.2.2.1
  have hKc : va_K D vwCl (cT F) s := X.2.2.2.2.2.1.sub [0, 1] rfl
  have hKd : va_K D vwCl (dT G) s := X.2.2.2.2.2.1.sub [2, 3, 4] rfl
  refine gg_aload_n X dL_law_428 rfl 2 rfl ?_
  refine gg_aload_n X dL_law_429 rfl 3 rfl ?_
  refine gg_iload_n X dL_law_430 rfl 0 rfl ?_
  refine gg_iconst X dL_law_431 (v := nI 1) (by decide) ?_
  refine gg_iadd X dL_law_432 (nI_add _ _) ?_
  refine gg_sld X hX hbl dL_law_433 (i + 1) rfl (by omega) (by omega) ?_
  refine gc_iL X (gr_V (q0 := 0) X dL_law_434 hKc (k_numberIn l D F u (xs (i + 1))) (cwV 1 X.2.2.2.2.1 (gdV (al 125 rfl) (al 126 rfl) (al 262 rfl) (al 1 rfl) (al 127 rfl)) rfl rfl rfl (by decide +kernel) ⟨Nat.le_of_ble_eq_true rfl, Nat.le_of_ble_eq_true rfl⟩) rfl rfl rfl rfl rfl (Nat.le_of_ble_eq_true rfl) ⟨by show cells + 0 ≤ 600000; omega, by show slots + 0 ≤ 7302250; omega⟩) (fun x u2 hx => ?_)
  refine gg_aload_n X dL_law_437 rfl 1 rfl ?_
  refine gg_aload_n X dL_law_438 rfl 3 rfl ?_
  refine gg_iload_n X dL_law_439 rfl 0 rfl ?_
  refine gg_iconst X dL_law_440 (v := nI 1) (by decide) ?_
  refine gg_iadd X dL_law_441 (nI_add _ _) ?_
  refine gg_sld X hX hbl dL_law_442 (i + 1) rfl (by omega) (by omega) ?_
  refine gc_iR X (gr_V (q0 := 0) X dL_law_443 hKd (k_numberInd l D G t (xs (i + 1))) (cwV 1 X.2.2.2.2.1 (gdV (al 222 rfl) (al 223 rfl) (al 275 rfl) (al 4 rfl) (al 224 rfl)) rfl rfl rfl (by decide +kernel) ⟨Nat.le_of_ble_eq_true rfl, Nat.le_of_ble_eq_true rfl⟩) rfl rfl rfl rfl rfl (Nat.le_of_ble_eq_true rfl) ⟨by show cells + 0 + 0 ≤ 600000; omega, by show slots + 0 + 0 ≤ 7302250; omega⟩) (fun y t2 hy => ?_)
  have hop := op_numIn hI hx hy
  refine gg_icmp_eq (tgt := 507) X dL_law_446 (by decide) (fun cc => ?_) (fun cc => ?_)
  · refine gg_wide (k := cells + 2) (n := slots + 23) (by show cells + 0 + 0 ≤ cells + 2; omega) (by show slots + 0 + 0 ≤ slots + 23; omega) ?_
    exact kk u2 t2 hop.2 (gm_numIn hy)
  · exact absurd hop.1 cc
set_option maxHeartbeats 4000000 in
set_option maxRecDepth 100000 in
theorem lc_same {p : Program} {l : Launch} {e : Env} {s : State} {m : MethodId} {below : List Frame} {meth : Method} {c : Code} {D : va_G} {Q : State → Prop} {b L : Nat} {xs : Nat → Int32} {F : CF} {G : DF} (X : gx p s m #[Value.ref b] c code 4 RL wLW D vwCl (cT F ++ dT G) (aLW s)) (hX : va_X b L xs s s.heap) (hbl : b < s.heap.size) (hL : L ≤ 2049) (hCG : dC G = kC F) {u : CS} {t : DS} (hI : Iv F u t) (hM : gM t < 512) {i cells slots : Nat} (hi : i + 4 ≤ L) (hcs : cells + 2 ≤ 600000) (hss : slots + 23 ≤ 7302250)
    (kk : ∀ (u2 : CS) (t2 : DS), Iv F u2 t2 → gM t2 ≤ gM t + 1 → gg p l e room_1 s m #[Value.ref b] below meth c (cells + 2) (slots + 23) Q D vwCl (aLW s) 4 (cW F u2 ++ dW G t2) [(3, .int (nI i)), (2, .ref (dH G)), (1, .ref (kH F)), (0, .ref b)] 507 []) : gg p l e room_1 s m #[Value.ref b] below meth c cells slots Q D vwCl (aLW s) 4 (cW F u ++ dW G t) [(3, .int (nI i)), (2, .ref (dH G)), (1, .ref (kH F)), (0, .ref b)] 451 [] := by
  obtain ⟨rho, hRl, hc, hk⟩ := id hI
  have hC3 : dC G ≤ 3000 := by rw [hCG]; exact hc.2.2.1
  have hKc : va_K D vwCl (cT F) s := X.2.2.2.2.2.1.sub [0, 1] rfl
  have hKd : va_K D vwCl (dT G) s := X.2.2.2.2.2.1.sub [2, 3, 4] rfl
  refine gg_aload_n X dL_law_451 rfl 2 rfl ?_
  refine gg_aload_n X dL_law_452 rfl 3 rfl ?_
  refine gg_iload_n X dL_law_453 rfl 0 rfl ?_
  refine gg_iconst X dL_law_454 (v := nI 1) (by decide) ?_
  refine gg_iadd X dL_law_455 (nI_add _ _) ?_
  refine gg_sld X hX hbl dL_law_456 (i + 1) rfl (by omega) (by omega) ?_
  refine gg_aload_n X dL_law_457 rfl 3 rfl ?_
  refine gg_iload_n X dL_law_458 rfl 0 rfl ?_
  refine gg_iconst X dL_law_459 (v := nI 2) (by decide) ?_
  refine gg_iadd X dL_law_460 (nI_add _ _) ?_
  refine gg_sld X hX hbl dL_law_461 (i + 2) rfl (by omega) (by omega) ?_
  refine gc_iL X (gr_V (q0 := 0) X dL_law_462 hKc (k_same l D F u (xs (i + 1)) (xs (i + 2))) (cwV 2 X.2.2.2.2.1 (gdV (al 128 rfl) (al 129 rfl) (al 263 rfl) (al 1 rfl) (al 130 rfl)) rfl rfl rfl (by decide +kernel) ⟨Nat.le_of_ble_eq_true rfl, Nat.le_of_ble_eq_true rfl⟩) rfl rfl rfl rfl rfl (Nat.le_of_ble_eq_true rfl) ⟨by show cells + 0 ≤ 600000; omega, by show slots + 0 ≤ 7302250; omega⟩) (fun x u2 hx => ?_)
  refine gg_aload_n X dL_law_465 rfl 1 rfl ?_
  refine gg_aload_n X dL_law_466 rfl 3 rfl ?_
  refine gg_iload_n X dL_law_467 rfl 0 rfl ?_
  refine gg_iconst X dL_law_468 (v := nI 1) (by decide) ?_
  refine gg_iadd X dL_law_469 (nI_add _ _) ?_
  refine gg_sld X hX hbl dL_law_470 (i + 1) rfl (by omega) (by omega) ?_
  refine gg_aload_n X dL_law_471 rfl 3 rfl ?_
  refine gg_iload_n X dL_law_472 rfl 0 rfl ?_
  refine gg_iconst X dL_law_473 (v := nI 2) (by decide) ?_
  refine gg_iadd X dL_law_474 (nI_add _ _) ?_
  refine gg_sld X hX hbl dL_law_475 (i + 2) rfl (by omega) (by omega) ?_
  refine gc_iR X (gr_V (q0 := 0) X dL_law_476 hKd (k_samed l D G t (xs (i + 1)) (xs (i + 2))) (cwV 2 X.2.2.2.2.1 (gdV (al 225 rfl) (al 226 rfl) (al 276 rfl) (al 4 rfl) (al 227 rfl)) rfl rfl rfl (by decide +kernel) ⟨Nat.le_of_ble_eq_true rfl, Nat.le_of_ble_eq_true rfl⟩) rfl rfl rfl rfl rfl (Nat.le_of_ble_eq_true rfl) ⟨by show cells + 0 + 0 ≤ 600000; omega, by show slots + 0 + 0 ≤ 7302250; omega⟩) (fun y t2 hy => ?_)
  have hop := op_same hI hx hy
  refine gg_icmp_eq (tgt := 507) X dL_law_479 (by decide) (fun cc => ?_) (fun cc => ?_)
  · refine gg_wide (k := cells + 2) (n := slots + 23) (by show cells + 0 + 0 ≤ cells + 2; omega) (by show slots + 0 + 0 ≤ slots + 23; omega) ?_
    exact kk u2 t2 hop.2 (gm_same hy)
  · exact absurd hop.1 cc
set_option maxHeartbeats 4000000 in
set_option maxRecDepth 100000 in
theorem lc_count {p : Program} {l : Launch} {e : Env} {s : State} {m : MethodId} {below : List Frame} {meth : Method} {c : Code} {D : va_G} {Q : State → Prop} {b L : Nat} {xs : Nat → Int32} {F : CF} {G : DF} (X : gx p s m #[Value.ref b] c code 4 RL wLW D vwCl (cT F ++ dT G) (aLW s)) (hX : va_X b L xs s s.heap) (hbl : b < s.heap.size) (hL : L ≤ 2049) (hCG : dC G = kC F) {u : CS} {t : DS} (hI : Iv F u t) (hM : gM t < 512) {i cells slots : Nat} (hi : i + 4 ≤ L) (hcs : cells + 2 ≤ 600000) (hss : slots + 23 ≤ 7302250)
    (kk : ∀ (u2 : CS) (t2 : DS), Iv F u2 t2 → gM t2 ≤ gM t + 1 → gg p l e room_1 s m #[Value.ref b] below meth c (cells + 2) (slots + 23) Q D vwCl (aLW s) 4 (cW F u2 ++ dW G t2) [(3, .int (nI i)), (2, .ref (dH G)), (1, .ref (kH F)), (0, .ref b)] 507 []) : gg p l e room_1 s m #[Value.ref b] below meth c cells slots Q D vwCl (aLW s) 4 (cW F u ++ dW G t) [(3, .int (nI i)), (2, .ref (dH G)), (1, .ref (kH F)), (0, .ref b)] 484 [] := by
  obtain ⟨rho, hRl, hc, hk⟩ := id hI
  have hC3 : dC G ≤ 3000 := by rw [hCG]; exact hc.2.2.1
  have hKc : va_K D vwCl (cT F) s := X.2.2.2.2.2.1.sub [0, 1] rfl
  have hKd : va_K D vwCl (dT G) s := X.2.2.2.2.2.1.sub [2, 3, 4] rfl
  refine gg_aload_n X dL_law_484 rfl 2 rfl ?_
  refine gg_aload_n X dL_law_485 rfl 3 rfl ?_
  refine gg_iload_n X dL_law_486 rfl 0 rfl ?_
  refine gg_iconst X dL_law_487 (v := nI 1) (by decide) ?_
  refine gg_iadd X dL_law_488 (nI_add _ _) ?_
  refine gg_sld X hX hbl dL_law_489 (i + 1) rfl (by omega) (by omega) ?_
  refine gc_iL X (gr_V (q0 := 0) X dL_law_490 hKc (k_count l D F u hc (xs (i + 1))) (cwV 1 X.2.2.2.2.1 (gdV (al 131 rfl) (al 132 rfl) (al 264 rfl) (al 1 rfl) (al 133 rfl)) rfl rfl rfl (by decide +kernel) ⟨Nat.le_of_ble_eq_true rfl, Nat.le_of_ble_eq_true rfl⟩) rfl rfl rfl rfl rfl (Nat.le_of_ble_eq_true rfl) ⟨by show cells + 0 ≤ 600000; omega, by show slots + 0 ≤ 7302250; omega⟩) (fun x u2 hx => ?_)
  refine gg_aload_n X dL_law_493 rfl 1 rfl ?_
  refine gg_aload_n X dL_law_494 rfl 3 rfl ?_
  refine gg_iload_n X dL_law_495 rfl 0 rfl ?_
  refine gg_iconst X dL_law_496 (v := nI 1) (by decide) ?_
  refine gg_iadd X dL_law_497 (nI_add _ _) ?_
  refine gg_sld X hX hbl dL_law_498 (i + 1) rfl (by omega) (by omega) ?_
  refine gc_iR X (gr_V (q0 := 0) X dL_law_499 hKd (k_countd l D G t hk (xs (i + 1))) (cwV 1 X.2.2.2.2.1 (gdV (al 228 rfl) (al 229 rfl) (al 277 rfl) (al 4 rfl) (al 230 rfl)) rfl rfl rfl (by decide +kernel) ⟨Nat.le_of_ble_eq_true rfl, Nat.le_of_ble_eq_true rfl⟩) rfl rfl rfl rfl rfl (Nat.le_of_ble_eq_true rfl) ⟨by show cells + 0 + 0 ≤ 600000; omega, by show slots + 0 + 0 ≤ 7302250; omega⟩) (fun y t2 hy => ?_)
  have hop := op_count hI hx hy
  refine gg_icmp_eq (tgt := 507) X dL_law_502 (by decide) (fun cc => ?_) (fun cc => ?_)
  · refine gg_wide (k := cells + 2) (n := slots + 23) (by show cells + 0 + 0 ≤ cells + 2; omega) (by show slots + 0 + 0 ≤ slots + 23; omega) ?_
    exact kk u2 t2 hop.2 (gm_count hy)
  · exact absurd hop.1 cc
