set_option maxHeartbeats 4000000 in
set_option maxRecDepth 100000 in
/-- THE LAW'S LOOP -/
theorem law_loop {p : Program} {l : Launch} {e : Env} {s : State} {m : MethodId} {below : List Frame} {meth : Method} {c : Code} {D : va_G} {b L : Nat} {xs : Nat → Int32} {F : CF} {G : DF} (X : gx p s m #[Value.ref b] c code 4 RL wLW D vwCl (cT F ++ dT G) (aLW s)) (hX : va_X b L xs s s.heap) (hbl : b < s.heap.size) (hL : L ≤ 2049) (hCG : dC G = kC F) (hr : meth.sig.returnType = ret) (hlocks : meth.locks = false) {u : CS} {t : DS} (hI : Iv F u t) (hM0 : gM t = 0) : gg p l e room_1 s m #[Value.ref b] below meth c 11 25039 (lw_Z below #[Value.ref b] s) D vwCl (aLW s) 4 (cW F u ++ dW G t) [(3, .int (nI 1)), (2, .ref (dH G)), (1, .ref (kH F)), (0, .ref b)] 28 [] := by
  refine gg_loopC (ι := Nat × CS × DS) (fun a => 4 * a.1 ≤ L + 3 ∧ Iv F a.2.1 a.2.2 ∧ gM a.2.2 ≤ a.1) (fun a => L + 4 - 4 * a.1) (fun a => 11 + 2 * a.1) (fun a => 25039 + 23 * a.1) (fun a => cW F a.2.1 ++ dW G a.2.2) (fun a => [(3, .int (nI (1 + 4 * a.1))), (2, .ref (dH G)), (1, .ref (kH F)), (0, .ref b)]) ?_ (0, u, t) ⟨by show 4 * 0 ≤ L + 3; omega, hI, by show gM t ≤ 0; omega⟩
  intro a ha ih
  obtain ⟨q, u, t⟩ := a
  obtain ⟨h1, h2, h3⟩ := ha
  have h1 : 4 * q ≤ L + 3 := h1
  have h2 : Iv F u t := h2
  have h3 : gM t ≤ q := h3
  refine gg_iload_n X dL_law_28 rfl 0 rfl ?_
  refine gg_aload_n X dL_law_29 rfl 3 rfl ?_
  refine gg_slen X hX hbl dL_law_30 ?_
  refine gg_iconst X dL_law_31 (v := nI 4) (by decide) ?_
  refine gg_isub X dL_law_32 (v := nI L - nI 4) rfl ?_
  refine gg_icmp_gt (tgt := 513) X dL_law_33 (by decide) (fun c_33 => ?_) (fun c_33 => ?_)
  · refine gg_iconst X dL_law_513 (v := 1) (by decide) ?_
    intro H locs ls hP hD hS hl
    refine va_forget (fun x hx => hS.2.2 x hx) ?_
    refine W.widen (k := 600000) (n := 7302250) (by show 11 + 2 * q ≤ 600000; omega) (by show 25039 + 23 * q ≤ 7302250; omega) ?_
    exact lw_ret X.1 X.2.1 hr hlocks dL_law_514
  · have hle : 1 + 4 * q + 4 ≤ L := by
      have e1 : (nI L - nI 4).toInt = (L : Int) - 4 := pk_sub_toInt (by omega) (by omega)
      rw [Int32.lt_iff_toInt_lt, e1] at c_33
      have e2 : (nI (1 + 4 * (q, u, t).1)).toInt = ((1 + 4 * q : Nat) : Int) := nI_int (by show 1 + 4 * q < _; omega)
      rw [e2] at c_33
      omega
    have hM : gM t < 512 := by omega
    have back : ∀ (u2 : CS) (t2 : DS), Iv F u2 t2 → gM t2 ≤ gM t + 1 → gg p l e room_1 s m #[Value.ref b] below meth c (11 + 2 * q + 2) (25039 + 23 * q + 23) (lw_Z below #[Value.ref b] s) D vwCl (aLW s) 4 (cW F u2 ++ dW G t2) [(3, .int (nI (1 + 4 * q))), (2, .ref (dH G)), (1, .ref (kH F)), (0, .ref b)] 507 [] := by
      intro u2 t2 g1 g2
      refine gg_iinc X dL_law_507 0 rfl (v := nI (1 + 4 * (q + 1))) (by show nI (1 + 4 * q) + nI 4 = _; rw [nI_add]; congr 1) (by decide) rfl ?_
      refine gg_goto (tgt := 28) X dL_law_510 (by decide) ?_
      exact ih (q + 1, u2, t2) ⟨by show 4 * (q + 1) ≤ L + 3; omega, g1, by show gM t2 ≤ q + 1; omega⟩ (by show L + 4 - 4 * (q + 1) < L + 4 - 4 * q; omega)
    refine gg_aload_n X dL_law_36 rfl 3 rfl ?_
    refine gg_iload_n X dL_law_37 rfl 0 rfl ?_
    refine gg_sld X hX hbl dL_law_38 (1 + 4 * q) rfl (by omega) (by omega) ?_
    refine gg_bipush X dL_law_39 (v := 15) (by decide) ?_
    obtain ⟨k, hk16, ek⟩ := op_of (xs (1 + 4 * q))
    refine gg_iand X dL_law_41 ek ?_
    by_cases n0 : k = 0
    · subst n0
      refine gg_tableIn (tgt := 108) X dL_law_42 (by decide) (by decide) (by rfl) (by decide) ?_
      exact lc_make X hX hbl hL hCG h2 hM (by omega) (by omega) (by omega) back
    by_cases n1 : k = 1
    · subst n1
      refine gg_tableIn (tgt := 151) X dL_law_42 (by decide) (by decide) (by rfl) (by decide) ?_
      exact lc_grow X hX hbl hL hCG h2 hM (by omega) (by omega) (by omega) back
    by_cases n2 : k = 2
    · subst n2
      refine gg_tableIn (tgt := 184) X dL_law_42 (by decide) (by decide) (by rfl) (by decide) ?_
      exact lc_shrink X hX hbl hL hCG h2 hM (by omega) (by omega) (by omega) back
    by_cases n3 : k = 3
    · subst n3
      refine gg_tableIn (tgt := 207) X dL_law_42 (by decide) (by decide) (by rfl) (by decide) ?_
      exact lc_number X hX hbl hL hCG h2 hM (by omega) (by omega) (by omega) back
    by_cases n4 : k = 4
    · subst n4
      refine gg_tableIn (tgt := 240) X dL_law_42 (by decide) (by decide) (by rfl) (by decide) ?_
      exact lc_copy X hX hbl hL hCG h2 hM (by omega) (by omega) (by omega) back
    by_cases n5 : k = 5
    · subst n5
      refine gg_tableIn (tgt := 273) X dL_law_42 (by decide) (by decide) (by rfl) (by decide) ?_
      exact lc_get X hX hbl hL hCG h2 hM (by omega) (by omega) (by omega) back
    by_cases n6 : k = 6
    · subst n6
      refine gg_tableIn (tgt := 316) X dL_law_42 (by decide) (by decide) (by rfl) (by decide) ?_
      exact lc_set X hX hbl hL hCG h2 hM (by omega) (by omega) (by omega) back
    by_cases n7 : k = 7
    · subst n7
      refine gg_tableIn (tgt := 359) X dL_law_42 (by decide) (by decide) (by rfl) (by decide) ?_
      exact lc_push X hX hbl hL hCG h2 hM (by omega) (by omega) (by omega) back
    by_cases n8 : k = 8
    · subst n8
      refine gg_tableIn (tgt := 382) X dL_law_42 (by decide) (by decide) (by rfl) (by decide) ?_
      exact lc_pop X hX hbl hL hCG h2 hM (by omega) (by omega) (by omega) back
    by_cases n9 : k = 9
    · subst n9
      refine gg_tableIn (tgt := 405) X dL_law_42 (by decide) (by decide) (by rfl) (by decide) ?_
      exact lc_look X hX hbl hL hCG h2 hM (by omega) (by omega) (by omega) back
    by_cases n10 : k = 10
    · subst n10
      refine gg_tableIn (tgt := 428) X dL_law_42 (by decide) (by decide) (by rfl) (by decide) ?_
      exact lc_numberIn X hX hbl hL hCG h2 hM (by omega) (by omega) (by omega) back
    by_cases n11 : k = 11
    · subst n11
      refine gg_tableIn (tgt := 451) X dL_law_42 (by decide) (by decide) (by rfl) (by decide) ?_
      exact lc_same X hX hbl hL hCG h2 hM (by omega) (by omega) (by omega) back
    by_cases n12 : k = 12
    · subst n12
      refine gg_tableIn (tgt := 484) X dL_law_42 (by decide) (by decide) (by rfl) (by decide) ?_
      exact lc_count X hX hbl hL hCG h2 hM (by omega) (by omega) (by omega) back
    refine gg_tableOut (tgt := 507) X dL_law_42 (Or.inr (by rw [nI_int (by omega)]; omega)) (by decide) ?_
    refine gg_wide (k := 11 + 2 * q + 2) (n := 25039 + 23 * q + 23) (by show 11 + 2 * q ≤ _; omega) (by show 25039 + 23 * q ≤ _; omega) ?_
    exact back u t h2 (by omega)
