set_option maxHeartbeats 4000000 in
set_option maxRecDepth 100000 in
/-- THE LAW, from its entry -/
theorem whole_start {p : Program} {e : Env} {s : State} {m : MethodId} {below : List Frame} {meth : Method} {c : Code} (l : Launch) {b L : Nat} {xs : Nat → Int32} (hL : L ≤ 2049) (C0 : lw_At p s m meth c b L xs) : W p l e room_1 s m #[Value.ref b] below meth c s.heap [] 0 0 (lw_Z below #[Value.ref b] s) (entryFrame m ([Value.ref b] : List Value).toArray 4) := by
  obtain ⟨hx, hb, hr, hml, hown, hts0, hX, hbl, hlocks, hgv⟩ := id C0
  have hts : ∀ w ∈ wLW, w.before #[Value.ref b] s = true := fun w hw => by
    rcases List.mem_cons.mp hw with h | h
    · rw [h]; exact hts0 _ (al_in _ (al 0 rfl))
    · exact hts0 w (al_in w h)
  obtain ⟨c0, iS0, hKn0⟩ := u_known (C := RX0) (T := TX0) (N := 4) (n := 4) hts imX0 (hts (.instantiable RX0 4) (am 19 rfl))
  obtain ⟨c1, iS1, hKn1⟩ := u_known (C := RX1) (T := TX1) (N := 3) (n := 3) hts imX1 (hts (.instantiable RX1 3) (am 79 rfl))
  obtain ⟨c2, iS2, hKn2⟩ := u_known (C := RX2) (T := TX2) (N := 7) (n := 7) hts imX2 (hts (.instantiable RX2 7) (am 7 rfl))
  obtain ⟨c3, iS3, hKn3⟩ := u_known (C := RX3) (T := TX3) (N := 8) (n := 8) hts imX3 (hts (.instantiable RX3 8) (am 138 rfl))
  obtain ⟨eC, eI, hKc⟩ : ∃ (eC : Nat → ClassId) (eI : Nat → Nat → Nat), ∀ (k : Nat) (q : vw_C), vwCl[k]? = some q → u_Kn s q.1 q.2.1 q.2.2 (eC k) (eI k) := by
    refine ⟨fun k => if k = 0 then c0 else if k = 1 then c1 else if k = 2 then c2 else c3, fun k => if k = 0 then iS0 else if k = 1 then iS1 else if k = 2 then iS2 else iS3, ?_⟩
    intro k q hq
    match k, hq with
    | 0, hq => cases hq; exact hKn0
    | 1, hq => cases hq; exact hKn1
    | 2, hq => cases hq; exact hKn2
    | 3, hq => cases hq; exact hKn3
    | k + 4, hq => simp [vwCl] at hq
  have hNF : NF s := ⟨fun w hw => va_Nw.of (nw_on w hw) (hts0 w (nw_in w hw)), va_AO.of (hts0 _ ao_in)⟩
  obtain ⟨J, hJ⟩ := arr_at (hts (.arrayClass .long) (am 32 rfl)) (fun C h => by cases h)
  obtain ⟨B, hB⟩ := arr_at (hts (.arrayClass .byte) (am 159 rfl)) (fun C h => by cases h)
  obtain ⟨I, hI⟩ := arr_at (hts (.arrayClass .int) (am 160 rfl)) (fun C h => by cases h)
  obtain ⟨Z, hZ⟩ := arr_at (hts (.arrayClass .boolean) (am 161 rfl)) (fun C h => by cases h)
  obtain ⟨T, hT⟩ := arr_ob hNF.2
  have hK : va_K (eC, eI) vwCl ([(J, .long), (T, .object "SliceHeap$Thing")] ++ [(B, .byte), (I, .int), (Z, .boolean)]) s := by
    refine ⟨hKc, fun k q h => ?_⟩
    match k, h with
    | 0, h => cases h; exact hJ
    | 1, h => cases h; exact hT
    | 2, h => cases h; exact hB
    | 3, h => cases h; exact hI
    | 4, h => cases h; exact hZ
    | k + 5, h => simp at h
  have X : gx p s m #[Value.ref b] c code 4 RL wLW (eC, eI) vwCl ([(J, .long), (T, .object "SliceHeap$Thing")] ++ [(B, .byte), (I, .int), (Z, .boolean)]) (aLW s) := ⟨hx, hb, hml, hown, hts, hK, fun q h => h, hNF⟩
  have hK1 : va_K (eC, eI) vwCl [(J, .long), (T, .object "SliceHeap$Thing")] s := hK.sub [0, 1] rfl
  have hK2 : va_K (eC, eI) vwCl [(B, .byte), (I, .int), (Z, .boolean)] s := hK.sub [2, 3, 4] rfl
  have key : gg p l e room_1 s m #[Value.ref b] below meth c 0 0 (lw_Z below #[Value.ref b] s) (eC, eI) vwCl (aLW s) 4 [] [(0, .ref b)] 0 [] := by
    refine gg_new (C := RX2) (T := TX2) (N' := 7) (ci := 2) X dL_law_0 imX2 tyX2 tyX2_ok (am 6 rfl) (am 7 rfl) (am 1 rfl) rfl (fs := [.int 0, .null, .null, .null, .int 0, .int 0, .int 0]) (fun j hj => by rcases (show j = 0 ∨ j = 1 ∨ j = 2 ∨ j = 3 ∨ j = 4 ∨ j = 5 ∨ j = 6 by omega) with rfl | rfl | rfl | rfl | rfl | rfl | rfl <;> rfl) (Nat.le_of_ble_eq_true rfl) (Nat.le_of_ble_eq_true rfl) (fun h => ?_)
    refine gg_ws (ws' := [(h, .inr (2, [.int 0, .null, .null, .null, .int 0, .int 0, .int 0]))]) rfl ?_
    refine gg_dup X dL_law_3 rfl ?_
    refine gg_aload_n X dL_law_4 rfl 0 rfl ?_
    refine gg_iconst X dL_law_5 (v := 0) (by decide) ?_
    refine gg_cell X hX hbl (by omega) dL_law_6 (Nat.le_of_ble_eq_true rfl) ⟨Nat.le_of_ble_eq_true rfl, Nat.le_of_ble_eq_true rfl⟩ ?_
    obtain ⟨cv, ecv⟩ : ∃ cv : Int32, (if L = 0 then (0 : Int32) else xs 0) = cv := ⟨_, rfl⟩
    rw [ecv]
    refine gc_v X (gr_I X dL_law_9 hK1 (k_heapInit l (eC, eI) J T h cv) (cwI 1 hts (gd0 (al 10 rfl)) rfl rfl rfl (hts _ (am 1 rfl)) (hts _ (am 8 rfl)) (hts _ (am 9 rfl)) rfl (by decide +kernel) ⟨Nat.le_of_ble_eq_true rfl, Nat.le_of_ble_eq_true rfl⟩) rfl rfl (Nat.le_of_ble_eq_true rfl) ⟨Nat.le_of_ble_eq_true rfl, Nat.le_of_ble_eq_true rfl⟩) (fun w hw => ?_)
    obtain ⟨F, u⟩ := w
    have hw : pNew F u h J T (capC cv) := hw
    obtain ⟨e1, e2, e3, e4, -⟩ := id hw
    subst e1
    subst e2
    subst e3
    refine gg_ws (ws' := cW F u) rfl ?_
    refine gg_astore_n X dL_law_12 rfl (by decide) rfl ?_
    refine gg_new (C := RX3) (T := TX3) (N' := 8) (ci := 3) X dL_law_13 imX3 tyX3 tyX3_ok (am 137 rfl) (am 138 rfl) (am 4 rfl) rfl (fs := [.int 0, .null, .null, .int 0, .int 0, .null, .null, .int 0]) (fun j hj => by rcases (show j = 0 ∨ j = 1 ∨ j = 2 ∨ j = 3 ∨ j = 4 ∨ j = 5 ∨ j = 6 ∨ j = 7 by omega) with rfl | rfl | rfl | rfl | rfl | rfl | rfl | rfl <;> rfl) (Nat.le_of_ble_eq_true rfl) (Nat.le_of_ble_eq_true rfl) (fun g => ?_)
    refine gg_dup X dL_law_16 rfl ?_
    refine gg_aload_n X dL_law_17 rfl 1 rfl ?_
    refine gg_iconst X dL_law_18 (v := 0) (by decide) ?_
    refine gg_cell X hX hbl (by omega) dL_law_19 (Nat.le_of_ble_eq_true rfl) ⟨Nat.le_of_ble_eq_true rfl, Nat.le_of_ble_eq_true rfl⟩ ?_
    rw [ecv]
    refine gc_vR X (gr_I X dL_law_22 hK2 (k_modelInit l (eC, eI) B I Z g cv) (cwI 1 hts (gd0 (al 141 rfl)) rfl rfl rfl (hts _ (am 4 rfl)) (hts _ (am 139 rfl)) (hts _ (am 140 rfl)) rfl (by decide +kernel) ⟨Nat.le_of_ble_eq_true rfl, Nat.le_of_ble_eq_true rfl⟩) rfl rfl (Nat.le_of_ble_eq_true rfl) ⟨Nat.le_of_ble_eq_true rfl, Nat.le_of_ble_eq_true rfl⟩) (fun w hd => ?_)
    obtain ⟨G, t⟩ := w
    have hd : dNew G t g B I Z (capC cv) := hd
    obtain ⟨f1, f2, f3, f4, f5, -, -, f6, -⟩ := id hd
    subst f1
    subst f2
    subst f3
    subst f4
    refine gg_ws (ws' := cW F u ++ dW G t) rfl ?_
    refine gg_astore_n X dL_law_25 rfl (by decide) rfl ?_
    refine gg_iconst X dL_law_26 (v := nI 1) (by decide) ?_
    refine gg_istore_n X dL_law_27 rfl (by decide) rfl ?_
    refine gg_wide (k := 11) (n := 25039) (Nat.le_of_ble_eq_true rfl) (Nat.le_of_ble_eq_true rfl) ?_
    exact law_loop X hX hbl hL (f5.trans e4.symm) hr hlocks (Iv.start hw hd) f6
  have hl := lv_entry ([.ref b]) (n := 4) (Nat.le_of_ble_eq_true rfl)
  rw [lg_entry_eq]
  exact key s.heap [] _ (fun k q h => by simp at h) ⟨fun i j x y h => by simp at h, fun k q h => by simp at h⟩ va_S.rf hl
