set_option maxHeartbeats 4000000 in
set_option maxRecDepth 100000 in
theorem k_isR (l : Launch) (D : va_G) (tys : List (ClassId × FieldType)) (ws : va_W) (r : Int32) : mG l yX2_isRegister wX2_isRegister ({ frames := 0, cells := 0, slots := 0, locals := 0 }) D vwCl tys [.int r] ws (qI D vwCl (fun (x : Int32) (_ : Unit) => (isR r ∧ x = 1) ∨ (¬ isR r ∧ x = 0)) (fun _ => ws)) := by
  refine gg_met (cc := cX2_isRegister) (nL := 1) (ret := (some .boolean)) (lv := [(0, .int r)]) (by decide) rfl rfl (Nat.le_of_ble_eq_true rfl) ?_
  intro p_ e_ s_ m_ bl_ me_ cc_ A_ X hr hk hnm
  refine gg_iload_n X dX2_isRegister_0 rfl 0 rfl ?_
  refine gg_if_lt (tgt := 14) X dX2_isRegister_1 (by decide) (fun c_1 => ?_) (fun c_1 => ?_)
  · refine gg_iconst X dX2_isRegister_14 (v := 0) (by decide) ?_
    exact gg_zret X dX2_isRegister_15 hr hk rfl () (Or.inr ⟨isR_no (Or.inl c_1), rfl⟩) rfl (Nat.le_of_ble_eq_true rfl) (Nat.le_of_ble_eq_true rfl)
  · refine gg_iload_n X dX2_isRegister_4 rfl 0 rfl ?_
    refine gg_bipush X dX2_isRegister_5 (v := nI 10) (by decide) ?_
    refine gg_icmp_ge (tgt := 14) X dX2_isRegister_7 (by decide) (fun c_7 => ?_) (fun c_7 => ?_)
    · refine gg_iconst X dX2_isRegister_14 (v := 0) (by decide) ?_
      exact gg_zret X dX2_isRegister_15 hr hk rfl () (Or.inr ⟨isR_no (Or.inr c_7), rfl⟩) rfl (Nat.le_of_ble_eq_true rfl) (Nat.le_of_ble_eq_true rfl)
    · refine gg_iconst X dX2_isRegister_10 (v := 1) (by decide) ?_
      refine gg_goto (tgt := 15) X dX2_isRegister_11 (by decide) ?_
      exact gg_zret X dX2_isRegister_15 hr hk rfl () (Or.inl ⟨isR_yes c_1 c_7, rfl⟩) rfl (Nat.le_of_ble_eq_true rfl) (Nat.le_of_ble_eq_true rfl)
set_option maxHeartbeats 4000000 in
set_option maxRecDepth 100000 in
theorem k_hasValue (l : Launch) (D : va_G) (F : CF) (u : CS) (hc : cOk F u) (i : Nat) (hi : i < nU u) (k : Int32) : mG l yX1_hasValue wX1_hasValue ({ frames := 0, cells := 0, slots := 0, locals := 0 }) D vwCl (cT F) [.ref (tH u i), .int k] (cW F u) (qI D vwCl (fun (x : Int32) (w : CS) => w = u ∧ (((∃ q, q < sZ u i ∧ k = nI q) ∧ x = 1) ∨ (¬ (∃ q, q < sZ u i ∧ k = nI q) ∧ x = 0))) (cW F)) := by
  refine gg_met (cc := cX1_hasValue) (nL := 2) (ret := (some .boolean)) (lv := [(0, .ref (tH u i)), (1, .int k)]) (by decide) rfl rfl (Nat.le_of_ble_eq_true rfl) ?_
  intro p_ e_ s_ m_ bl_ me_ cc_ A_ X hr hk hnm
  have h20 := hc.2.2.2.2.2 i hi
  refine gg_iload_n X dX1_hasValue_0 rfl 1 rfl ?_
  refine gg_if_lt (tgt := 16) X dX1_hasValue_1 (by decide) (fun c_1 => ?_) (fun c_1 => ?_)
  · refine gg_iconst X dX1_hasValue_16 (v := 0) (by decide) ?_
    exact gg_zret X dX1_hasValue_17 hr hk rfl u (⟨rfl, Or.inr ⟨fun ⟨q, h1, h2⟩ => ix_no (n := sZ u i) (by omega) (Or.inl c_1) q h1 h2, rfl⟩⟩) rfl (Nat.le_of_ble_eq_true rfl) (Nat.le_of_ble_eq_true rfl)
  · refine gg_iload_n X dX1_hasValue_4 rfl 1 rfl ?_
    refine gg_aload_n X dX1_hasValue_5 rfl 0 rfl ?_
    refine gg_get X dX1_hasValue_6 imX1 (2 * i + 6) (cW_th _ _ hi) rfl 1 (by decide) (am 84 rfl) rfl ?_
    refine gg_icmp_ge (tgt := 16) X dX1_hasValue_9 (by decide) (fun c_9 => ?_) (fun c_9 => ?_)
    · refine gg_iconst X dX1_hasValue_16 (v := 0) (by decide) ?_
      exact gg_zret X dX1_hasValue_17 hr hk rfl u (⟨rfl, Or.inr ⟨fun ⟨q, h1, h2⟩ => ix_no (n := sZ u i) (by omega) (Or.inr c_9) q h1 h2, rfl⟩⟩) rfl (Nat.le_of_ble_eq_true rfl) (Nat.le_of_ble_eq_true rfl)
    · refine gg_iconst X dX1_hasValue_12 (v := 1) (by decide) ?_
      refine gg_goto (tgt := 17) X dX1_hasValue_13 (by decide) ?_
      exact gg_zret X dX1_hasValue_17 hr hk rfl u (⟨rfl, Or.inl ⟨ix_yes (by omega) c_1 c_9, rfl⟩⟩) rfl (Nat.le_of_ble_eq_true rfl) (Nat.le_of_ble_eq_true rfl)
set_option maxHeartbeats 4000000 in
set_option maxRecDepth 100000 in
theorem k_fill (l : Launch) (D : va_G) (F : CF) (u : CS) (hc : cOk F u) (i : Nat) (hi : i < nU u) (z : Nat) (hz : z ≤ 20) (x : Int64) : mG l yX1_fill wX1_fill ({ frames := 0, cells := 0, slots := 0, locals := 0 }) D vwCl (cT F) [.ref (tH u i), .int (nI z), .long x] (cW F u) (qV D vwCl (fun (w : CS) => pFil u i z x z w) (cW F)) := by
  refine gg_met (cc := cX1_fill) (nL := 5) (ret := none) (lv := [(0, .ref (tH u i)), (1, .int (nI z)), (2, .long x)]) (by decide) rfl rfl (Nat.le_of_ble_eq_true rfl) ?_
  intro p_ e_ s_ m_ bl_ me_ cc_ A_ X hr hk hnm
  refine gg_aload_n X dX1_fill_0 rfl 0 rfl ?_
  refine gg_iload_n X dX1_fill_1 rfl 1 rfl ?_
  refine gg_put X dX1_fill_2 imX1 tyX1 tyX1_ok nmX1 (2 * i + 6) (cW_th _ _ hi) rfl 1 (by decide) (am 84 rfl) (ws' := cW F (uZ u (va_up (sZ u) i z) (rC u) (vS u))) (ty := .int) rfl (by decide +kernel) rfl rfl (Nat.le_of_ble_eq_true rfl) ((cW_setT F u z (rC u i) hi).trans (by rw [va_up_id])) ?_
  refine gg_iconst X dX1_fill_5 (v := nI 0) (by decide) ?_
  refine gg_istore X dX1_fill_6 (by decide) rfl ?_
  refine gg_loop (ι := Nat × CS) (fun a => a.1 ≤ z ∧ pFil u i z x a.1 a.2) (fun a => z - a.1) (fun a => cW F a.2) (fun a => [(4, .int (nI a.1)), (0, .ref (tH u i)), (1, .int (nI z)), (2, .long x)]) ?_ (0, uZ u (va_up (sZ u) i z) (rC u) (vS u)) ⟨Nat.zero_le _, rfl, rfl, rfl, rfl, rfl, rfl, rfl, rfl, rfl, rfl, rfl, rfl, rfl, fun _ _ => rfl, fun k hk => by omega⟩
  intro a ha ih
  obtain ⟨q, v⟩ := a
  obtain ⟨hqz, hv⟩ := ha
  have hqz : q ≤ z := hqz
  have hv : pFil u i z x q v := hv
  have en : nU v = nU u := hv.2.2.2.2.2.1
  have et : tH v = tH u := hv.2.2.2.2.2.2.1
  have hi2 : i < nU v := by omega
  refine gg_lve (lv' := [(4, .int (nI q)), (0, .ref (tH v i)), (1, .int (nI z)), (2, .long x)]) (by rw [et]) ?_
  refine gg_iload X dX1_fill_8 0 rfl ?_
  refine gg_iload_n X dX1_fill_10 rfl 2 rfl ?_
  refine gg_icmp_ge (tgt := 38) X dX1_fill_11 (by decide) (fun c_11 => ?_) (fun c_11 => ?_)
  · have hq2 : z ≤ q := (nI_leI (by omega) (by omega)).mp c_11
    have e : q = z := by omega
    subst e
    exact gg_vret X dX1_fill_38 hr hk v (hv) rfl (Nat.le_of_ble_eq_true rfl) (Nat.le_of_ble_eq_true rfl)
  · have hq2 : ¬ z ≤ q := fun h => c_11 ((nI_leI (by omega) (by omega)).mpr h)
    refine gg_iload X dX1_fill_14 0 rfl ?_
    refine gg_aload_n X dX1_fill_16 rfl 1 rfl ?_
    refine gg_get X dX1_fill_17 imX1 (2 * i + 6) (cW_th _ _ hi2) rfl 0 (by decide) (am 83 rfl) rfl ?_
    refine gg_alen X dX1_fill_20 (2 * i + 7) 0 (cW_ar F v hi2) rfl (v := nI 20) rfl ?_
    refine gg_icmp_ge (tgt := 38) X dX1_fill_21 (by decide) (fun c_21 => ?_) (fun c_21 => ?_)
    · exact absurd ((nI_leI (by omega) (by omega)).mp c_21) (by omega)
    · refine gg_aload_n X dX1_fill_24 rfl 1 rfl ?_
      refine gg_get X dX1_fill_25 imX1 (2 * i + 6) (cW_th _ _ hi2) rfl 0 (by decide) (am 83 rfl) rfl ?_
      refine gg_iload X dX1_fill_28 0 rfl ?_
      refine gg_lload_n X dX1_fill_30 rfl 3 rfl ?_
      refine gg_last X dX1_fill_31 (2 * i + 7) 0 (cW_ar F v hi2) rfl q rfl (by omega) (by decide) (ws' := cW F (uZ v (sZ v) (rC v) (va_up (vS v) i (vp_updL (vS v i) q x)))) (cW_setA F v _ hi2) ?_
      refine gg_iinc X dX1_fill_32 0 rfl (nI_1 _) (by decide) rfl ?_
      refine gg_goto (tgt := 8) X dX1_fill_35 (by decide) ?_
      refine gg_lve (lv' := [(4, .int (nI (q + 1))), (0, .ref (tH u i)), (1, .int (nI z)), (2, .long x)]) (by rw [← et]; rfl) ?_
      exact ih (q + 1, _) ⟨by show q + 1 ≤ z; omega, hv.step⟩ (by show z - (q + 1) < z - q; omega)
set_option maxHeartbeats 4000000 in
set_option maxRecDepth 100000 in
theorem k_thingOf (l : Launch) (D : va_G) (F : CF) (u : CS) (hc : cOk F u) (v : Int64) : mG l yX0_thingOf wX0_thingOf ({ frames := 0, cells := 0, slots := 0, locals := 0 }) D vwCl (cT F) [.ref (kM F), .long v] (cW F u) (qQ D vwCl (fun (r : Option Nat) (w : CS) => w = u ∧ pTO u v r) (cW F)) := by
  refine gg_met (cc := cX0_thingOf) (nL := 5) (ret := (some (.object "SliceHeap$Thing"))) (lv := [(0, .ref (kM F)), (1, .long v)]) (by decide) rfl rfl (Nat.le_of_ble_eq_true rfl) ?_
  intro p_ e_ s_ m_ bl_ me_ cc_ A_ X hr hk hnm
  refine gg_lload_n X dX0_thingOf_0 rfl 1 rfl ?_
  refine gg_ldc2 X (v := 4294967297) (am 66 rfl) dX0_thingOf_1 ?_
  obtain ⟨w, hw⟩ : ∃ w : Int64, v - 4294967297 = w := ⟨_, rfl⟩
  refine gg_lsub X dX0_thingOf_4 hw ?_
  refine gg_lstore_n X dX0_thingOf_5 rfl (by decide) rfl ?_
  refine gg_lload_n X dX0_thingOf_6 rfl 0 rfl ?_
  refine gg_lconst X dX0_thingOf_7 (v := 0) (by decide) ?_
  refine gg_lcmp X dX0_thingOf_8 ?_
  refine gg_if_lt (tgt := 33) X dX0_thingOf_9 (by decide) (fun c_9 => ?_) (fun c_9 => ?_)
  · refine gg_null X dX0_thingOf_33 ?_
    exact gg_aret (r := none) X dX0_thingOf_34 hr hk u (⟨rfl, Or.inr ⟨fun i hi => row_neg hw ((lg_cmp_lt _ _).mp c_9) (by have hn := hc.n; omega), rfl⟩⟩) rfl (Nat.le_of_ble_eq_true rfl) (Nat.le_of_ble_eq_true rfl)
  · refine gg_lload_n X dX0_thingOf_12 rfl 0 rfl ?_
    refine gg_aload_n X dX0_thingOf_13 rfl 1 rfl ?_
    refine gg_get X dX0_thingOf_14 imX0 3 rfl rfl 0 (by decide) (am 24 rfl) rfl ?_
    refine gg_alen X dX0_thingOf_17 4 1 rfl rfl (v := nI (kN F)) rfl ?_
    refine gg_i2l X dX0_thingOf_18 (v := lN (kN F)) (nI_l (by have hN := hc.N; omega)) ?_
    refine gg_lcmp X dX0_thingOf_19 ?_
    refine gg_if_ge (tgt := 33) X dX0_thingOf_20 (by decide) (fun c_20 => ?_) (fun c_20 => ?_)
    · refine gg_null X dX0_thingOf_33 ?_
      exact gg_aret (r := none) X dX0_thingOf_34 hr hk u (⟨rfl, Or.inr ⟨fun i hi => row_big hw ((lg_cmp_ge _ _).mp c_20) hc.N (by have h4 := hc.2.2.2.1; omega), rfl⟩⟩) rfl (Nat.le_of_ble_eq_true rfl) (Nat.le_of_ble_eq_true rfl)
    · obtain ⟨j, hj, hwj, hvj⟩ := row_in hw (fun q => c_9 ((lg_cmp_lt _ _).mpr q)) (fun q => c_20 ((lg_cmp_ge _ _).mpr q)) hc.N
      refine gg_aload_n X dX0_thingOf_23 rfl 1 rfl ?_
      refine gg_get X dX0_thingOf_24 imX0 3 rfl rfl 0 (by decide) (am 24 rfl) rfl ?_
      refine gg_lload_n X dX0_thingOf_27 rfl 0 rfl ?_
      refine gg_l2i X dX0_thingOf_28 (v := nI j) (by rw [hwj]; exact lN_i j) ?_
      refine gg_aldq X dX0_thingOf_29 4 1 rfl rfl j rfl hj hc.N (r := rW (nU u) (tH u) j) rfl ?_
      refine gg_goto (tgt := 34) X dX0_thingOf_30 (by decide) ?_
      by_cases hjn : j < nU u
      · exact gg_aret X dX0_thingOf_34 hr hk u (⟨rfl, Or.inl ⟨j, hjn, hvj, rW_lt hjn⟩⟩) rfl (Nat.le_of_ble_eq_true rfl) (Nat.le_of_ble_eq_true rfl)
      · exact gg_aret X dX0_thingOf_34 hr hk u (⟨rfl, Or.inr ⟨fun i hi e => hjn (by rw [oB_inj (by have hN := hc.N; omega) (by have hn := hc.n; omega) (hvj.symm.trans e)]; exact hi), rW_ge hjn⟩⟩) rfl (Nat.le_of_ble_eq_true rfl) (Nat.le_of_ble_eq_true rfl)
set_option maxHeartbeats 4000000 in
set_option maxRecDepth 100000 in
theorem k_first (l : Launch) (D : va_G) (F : CF) (u : CS) (hc : cOk F u) : mG l yX0_firstUnreached wX0_firstUnreached ({ frames := 0, cells := 0, slots := 0, locals := 0 }) D vwCl (cT F) [.ref (kM F)] (cW F u) (qI D vwCl (fun (x : Int32) (w : CS) => w = u ∧ ∃ i, x = nI i ∧ pFst F u i) (cW F)) := by
  refine gg_met (cc := cX0_firstUnreached) (nL := 2) (ret := (some .int)) (lv := [(0, .ref (kM F))]) (by decide) rfl rfl (Nat.le_of_ble_eq_true rfl) ?_
  intro p_ e_ s_ m_ bl_ me_ cc_ A_ X hr hk hnm
  refine gg_iconst X dX0_firstUnreached_0 (v := nI 0) (by decide) ?_
  refine gg_istore_n X dX0_firstUnreached_1 rfl (by decide) rfl ?_
  refine gg_loop (ι := Nat) (fun a => a ≤ kN F ∧ a ≤ nU u ∧ ∀ k, k < a → rC u k = true) (fun a => kN F - a) (fun _ => cW F u) (fun a => [(1, .int (nI a)), (0, .ref (kM F))]) ?_ 0 ⟨Nat.zero_le _, Nat.zero_le _, fun k hk => by omega⟩
  intro q ha ih
  obtain ⟨h1, h2, h3⟩ := ha
  have hN := hc.N
  have hn := hc.n
  refine gg_iload_n X dX0_firstUnreached_2 rfl 0 rfl ?_
  refine gg_aload_n X dX0_firstUnreached_3 rfl 1 rfl ?_
  refine gg_get X dX0_firstUnreached_4 imX0 3 rfl rfl 0 (by decide) (am 24 rfl) rfl ?_
  refine gg_alen X dX0_firstUnreached_7 4 1 rfl rfl (v := nI (kN F)) rfl ?_
  refine gg_icmp_ge (tgt := 38) X dX0_firstUnreached_8 (by decide) (fun c_8 => ?_) (fun c_8 => ?_)
  · have hq2 : kN F ≤ q := (nI_leI (by omega) (by omega)).mp c_8
    refine gg_iload_n X dX0_firstUnreached_38 rfl 0 rfl ?_
    exact gg_iret X dX0_firstUnreached_39 hr hk u (⟨rfl, q, rfl, h1, h2, h3, fun g => absurd g (by omega)⟩) rfl (Nat.le_of_ble_eq_true rfl) (Nat.le_of_ble_eq_true rfl)
  · have hq2 : ¬ kN F ≤ q := fun h => c_8 ((nI_leI (by omega) (by omega)).mpr h)
    refine gg_aload_n X dX0_firstUnreached_11 rfl 1 rfl ?_
    refine gg_get X dX0_firstUnreached_12 imX0 3 rfl rfl 0 (by decide) (am 24 rfl) rfl ?_
    refine gg_iload_n X dX0_firstUnreached_15 rfl 0 rfl ?_
    refine gg_aldq X dX0_firstUnreached_16 4 1 rfl rfl q rfl (by omega) hN (r := rW (nU u) (tH u) q) rfl ?_
    refine gg_ifnull (tgt := 38) X dX0_firstUnreached_17 (by decide) (fun c_17 => ?_) (fun a_17 c_17 => ?_)
    · have hq3 := rW_none c_17
      refine gg_iload_n X dX0_firstUnreached_38 rfl 0 rfl ?_
      exact gg_iret X dX0_firstUnreached_39 hr hk u (⟨rfl, q, rfl, h1, h2, h3, fun _ g => absurd g hq3⟩) rfl (Nat.le_of_ble_eq_true rfl) (Nat.le_of_ble_eq_true rfl)
    · obtain ⟨hq, -⟩ := rW_some c_17
      refine gg_aload_n X dX0_firstUnreached_20 rfl 1 rfl ?_
      refine gg_get X dX0_firstUnreached_21 imX0 3 rfl rfl 0 (by decide) (am 24 rfl) rfl ?_
      refine gg_iload_n X dX0_firstUnreached_24 rfl 0 rfl ?_
      refine gg_aldq X dX0_firstUnreached_25 4 1 rfl rfl q rfl (by omega) hN (r := some (tH u q)) (rW_lt hq) ?_
      refine gg_getN (host := "SliceHeap") X dX0_firstUnreached_26 imX1 (2 * q + 6) (cW_th _ _ hq) rfl 2 (by decide) (X.2.2.2.2.2.2.2.1 _ (nw 12 rfl)) rfl ?_
      refine gg_if_eq (tgt := 38) X dX0_firstUnreached_29 (by decide) (fun c_29 => ?_) (fun c_29 => ?_)
      · have hr2 := bI_0 c_29
        refine gg_iload_n X dX0_firstUnreached_38 rfl 0 rfl ?_
        exact gg_iret X dX0_firstUnreached_39 hr hk u (⟨rfl, q, rfl, h1, h2, h3, fun _ _ => hr2⟩) rfl (Nat.le_of_ble_eq_true rfl) (Nat.le_of_ble_eq_true rfl)
      · have hr2 := bI_1 c_29
        refine gg_iinc X dX0_firstUnreached_32 0 rfl (nI_1 _) (by decide) rfl ?_
        refine gg_goto (tgt := 2) X dX0_firstUnreached_35 (by decide) ?_
        exact ih (q + 1) ⟨by omega, by omega, fun k hk => by
          by_cases e : k = q
          · rw [e]; exact hr2
          · exact h3 k (by omega)⟩ (by show kN F - (q + 1) < kN F - q; omega)
set_option maxHeartbeats 4000000 in
set_option maxRecDepth 100000 in
theorem k_forget (l : Launch) (D : va_G) (F : CF) (u : CS) (hc : cOk F u) : mG l yX0_forgetWalk wX0_forgetWalk ({ frames := 0, cells := 0, slots := 0, locals := 0 }) D vwCl (cT F) [.ref (kM F)] (cW F u) (qV D vwCl (fun (w : CS) => pFor u w) (cW F)) := by
  refine gg_met (cc := cX0_forgetWalk) (nL := 2) (ret := none) (lv := [(0, .ref (kM F))]) (by decide) rfl rfl (Nat.le_of_ble_eq_true rfl) ?_
  intro p_ e_ s_ m_ bl_ me_ cc_ A_ X hr hk hnm
  refine gg_iconst X dX0_forgetWalk_0 (v := nI 0) (by decide) ?_
  refine gg_istore_n X dX0_forgetWalk_1 rfl (by decide) rfl ?_
  refine gg_loop (ι := Nat × CS) (fun a => Sm u a.2 ∧ a.1 ≤ kN F ∧ ∀ k, k < a.1 → k < nU u → rC a.2 k = false) (fun a => kN F - a.1) (fun a => cW F a.2) (fun a => [(1, .int (nI a.1)), (0, .ref (kM F))]) ?_ (0, u) ⟨Sm.rf u, Nat.zero_le _, fun k hk => absurd hk (Nat.not_lt_zero k)⟩
  intro a ha ih
  obtain ⟨q, v⟩ := a
  obtain ⟨hs, h1, h2⟩ := ha
  have hs : Sm u v := hs
  have h1 : q ≤ kN F := h1
  have h2 : ∀ k, k < q → k < nU u → rC v k = false := h2
  have hN := hc.N
  have hn := hc.n
  have h4 := hc.2.2.2.1
  have en : nU v = nU u := hs.2.2.2.2.2.1
  refine gg_iload_n X dX0_forgetWalk_2 rfl 0 rfl ?_
  refine gg_aload_n X dX0_forgetWalk_3 rfl 1 rfl ?_
  refine gg_get X dX0_forgetWalk_4 imX0 3 rfl rfl 0 (by decide) (am 24 rfl) rfl ?_
  refine gg_alen X dX0_forgetWalk_7 4 1 rfl rfl (v := nI (kN F)) rfl ?_
  refine gg_icmp_ge (tgt := 36) X dX0_forgetWalk_8 (by decide) (fun c_8 => ?_) (fun c_8 => ?_)
  · have hq2 : kN F ≤ q := (nI_leI (by omega) (by omega)).mp c_8
    have hall : ∀ i, i < nU u → rC v i = false := fun i hi => h2 i (by omega) hi
    refine gg_aload_n X dX0_forgetWalk_36 rfl 1 rfl ?_
    refine gg_iconst X dX0_forgetWalk_37 (v := nI 0) (by decide) ?_
    refine gg_put X dX0_forgetWalk_38 imX0 tyX0 tyX0_ok nmX0 3 rfl rfl 2 (by decide) (am 26 rfl) (ws' := cW F (uO v 0 (rL v) (rE v))) (ty := .int) rfl (by decide +kernel) rfl rfl (Nat.le_of_ble_eq_true rfl) (rfl) ?_
    refine gg_aload_n X dX0_forgetWalk_41 rfl 1 rfl ?_
    refine gg_iconst X dX0_forgetWalk_42 (v := nI 0) (by decide) ?_
    refine gg_put X dX0_forgetWalk_43 imX0 tyX0 tyX0_ok nmX0 3 rfl rfl 3 (by decide) (am 27 rfl) (ws' := cW F (uO v 0 0 (rE v))) (ty := .int) rfl (by decide +kernel) rfl rfl (Nat.le_of_ble_eq_true rfl) (rfl) ?_
    exact gg_vret X dX0_forgetWalk_46 hr hk (uO v 0 0 (rE v)) (⟨hs, rfl, rfl, hall⟩) rfl (Nat.le_of_ble_eq_true rfl) (Nat.le_of_ble_eq_true rfl)
  · have hq2 : ¬ kN F ≤ q := fun h => c_8 ((nI_leI (by omega) (by omega)).mpr h)
    refine gg_aload_n X dX0_forgetWalk_11 rfl 1 rfl ?_
    refine gg_get X dX0_forgetWalk_12 imX0 3 rfl rfl 0 (by decide) (am 24 rfl) rfl ?_
    refine gg_iload_n X dX0_forgetWalk_15 rfl 0 rfl ?_
    refine gg_aldq X dX0_forgetWalk_16 4 1 rfl rfl q rfl (by omega) hN (r := rW (nU v) (tH v) q) rfl ?_
    refine gg_ifnull (tgt := 36) X dX0_forgetWalk_17 (by decide) (fun c_17 => ?_) (fun a_17 c_17 => ?_)
    · have hq3 := rW_none c_17
      have hall : ∀ i, i < nU u → rC v i = false := fun i hi => h2 i (by omega) hi
      refine gg_aload_n X dX0_forgetWalk_36 rfl 1 rfl ?_
      refine gg_iconst X dX0_forgetWalk_37 (v := nI 0) (by decide) ?_
      refine gg_put X dX0_forgetWalk_38 imX0 tyX0 tyX0_ok nmX0 3 rfl rfl 2 (by decide) (am 26 rfl) (ws' := cW F (uO v 0 (rL v) (rE v))) (ty := .int) rfl (by decide +kernel) rfl rfl (Nat.le_of_ble_eq_true rfl) (rfl) ?_
      refine gg_aload_n X dX0_forgetWalk_41 rfl 1 rfl ?_
      refine gg_iconst X dX0_forgetWalk_42 (v := nI 0) (by decide) ?_
      refine gg_put X dX0_forgetWalk_43 imX0 tyX0 tyX0_ok nmX0 3 rfl rfl 3 (by decide) (am 27 rfl) (ws' := cW F (uO v 0 0 (rE v))) (ty := .int) rfl (by decide +kernel) rfl rfl (Nat.le_of_ble_eq_true rfl) (rfl) ?_
      exact gg_vret X dX0_forgetWalk_46 hr hk (uO v 0 0 (rE v)) (⟨hs, rfl, rfl, hall⟩) rfl (Nat.le_of_ble_eq_true rfl) (Nat.le_of_ble_eq_true rfl)
    · obtain ⟨hq, -⟩ := rW_some c_17
      refine gg_aload_n X dX0_forgetWalk_20 rfl 1 rfl ?_
      refine gg_get X dX0_forgetWalk_21 imX0 3 rfl rfl 0 (by decide) (am 24 rfl) rfl ?_
      refine gg_iload_n X dX0_forgetWalk_24 rfl 0 rfl ?_
      refine gg_aldq X dX0_forgetWalk_25 4 1 rfl rfl q rfl (by omega) hN (r := some (tH v q)) (rW_lt hq) ?_
      refine gg_iconst X dX0_forgetWalk_26 (v := bI false) (by decide) ?_
      refine gg_putN (host := "SliceHeap") X dX0_forgetWalk_27 imX1 tyX1 tyX1_ok nmX1 (2 * q + 6) (cW_th _ _ hq) rfl 2 (by decide) (X.2.2.2.2.2.2.2.1 _ (nw 12 rfl)) (ws' := cW F (uZ v (sZ v) (va_up (rC v) q false) (vS v))) (ty := .boolean) rfl (by decide +kernel) rfl rfl (Nat.le_of_ble_eq_true rfl) (cW_setR F v false hq) ?_
      refine gg_iinc X dX0_forgetWalk_30 0 rfl (nI_1 _) (by decide) rfl ?_
      refine gg_goto (tgt := 2) X dX0_forgetWalk_33 (by decide) ?_
      exact ih (q + 1, uZ v (sZ v) (va_up (rC v) q false) (vS v)) ⟨hs, by show q + 1 ≤ kN F; omega, fun k hk hku => by
        show va_up (rC v) q false k = false
        have hk : k < q + 1 := hk
        by_cases e : k = q
        · rw [e, va_up_self]
        · rw [va_up_ne _ _ e]; exact h2 k (by omega) hku⟩ (by show kN F - (q + 1) < kN F - q; omega)
set_option maxHeartbeats 4000000 in
set_option maxRecDepth 100000 in
theorem k_reachN (l : Launch) (D : va_G) (F : CF) (u : CS) : mG l yX0_reach wX0_reach ({ frames := 0, cells := 0, slots := 0, locals := 0 }) D vwCl (cT F) [.ref (kM F), .null] (cW F u) (qV D vwCl (fun (w : CS) => w = u) (cW F)) := by
  refine gg_met (cc := cX0_reach) (nL := 2) (ret := none) (lv := [(0, .ref (kM F)), (1, .null)]) (by decide) rfl rfl (Nat.le_of_ble_eq_true rfl) ?_
  intro p_ e_ s_ m_ bl_ me_ cc_ A_ X hr hk hnm
  refine gg_aload_nN X dX0_reach_0 rfl 1 rfl ?_
  refine gg_ifnull (r := none) (tgt := 23) X dX0_reach_1 (by decide) (fun c_1 => ?_) (fun a_1 c_1 => ?_)
  · exact gg_vret X dX0_reach_23 hr hk u (rfl) rfl (Nat.le_of_ble_eq_true rfl) (Nat.le_of_ble_eq_true rfl)
  · cases c_1
set_option maxHeartbeats 4000000 in
set_option maxRecDepth 100000 in
theorem k_reachS (l : Launch) (D : va_G) (F : CF) (u : CS) (hc : cOk F u) (hw : Wk u) (i : Nat) (hi : i < nU u) : mG l yX0_reach wX0_reach ({ frames := 0, cells := 0, slots := 0, locals := 0 }) D vwCl (cT F) [.ref (kM F), .ref (tH u i)] (cW F u) (qV D vwCl (fun (w : CS) => w = rch u (some i)) (cW F)) := by
  refine gg_met (cc := cX0_reach) (nL := 2) (ret := none) (lv := [(0, .ref (kM F)), (1, .ref (tH u i))]) (by decide) rfl rfl (Nat.le_of_ble_eq_true rfl) ?_
  intro p_ e_ s_ m_ bl_ me_ cc_ A_ X hr hk hnm
  have hN := hc.N
  have hn := hc.n
  have h4 := hc.2.2.2.1
  refine gg_aload_n X dX0_reach_0 rfl 1 rfl ?_
  refine gg_ifnull (r := some (tH u i)) (tgt := 23) X dX0_reach_1 (by decide) (fun c_1 => ?_) (fun a_1 c_1 => ?_)
  · cases c_1
  · refine gg_aload_n X dX0_reach_4 rfl 1 rfl ?_
    refine gg_getN (host := "SliceHeap") X dX0_reach_5 imX1 (2 * i + 6) (cW_th _ _ hi) rfl 2 (by decide) (X.2.2.2.2.2.2.2.1 _ (nw 12 rfl)) rfl ?_
    refine gg_if_ne (tgt := 23) X dX0_reach_8 (by decide) (fun c_8 => ?_) (fun c_8 => ?_)
    · have hr2 := bI_1 c_8
      exact gg_vret X dX0_reach_23 hr hk u (by show u = if rC u i = true then u else mk u i; rw [if_pos hr2]) rfl (Nat.le_of_ble_eq_true rfl) (Nat.le_of_ble_eq_true rfl)
    · have hr2 := bI_0 c_8
      have hlt := hw.lt hi hr2
      refine gg_aload_n X dX0_reach_11 rfl 0 rfl ?_
      refine gg_get X dX0_reach_12 imX0 3 rfl rfl 2 (by decide) (am 26 rfl) rfl ?_
      refine gg_aload_n X dX0_reach_15 rfl 0 rfl ?_
      refine gg_get X dX0_reach_16 imX0 3 rfl rfl 1 (by decide) (am 25 rfl) rfl ?_
      refine gg_alen X dX0_reach_19 5 1 rfl rfl (v := nI (kN F)) rfl ?_
      refine gg_icmp_lt (tgt := 24) X dX0_reach_20 (by decide) (fun c_20 => ?_) (fun c_20 => ?_)
      · refine gg_aload_n X dX0_reach_24 rfl 1 rfl ?_
        refine gg_iconst X dX0_reach_25 (v := bI true) (by decide) ?_
        refine gg_putN (host := "SliceHeap") X dX0_reach_26 imX1 tyX1 tyX1_ok nmX1 (2 * i + 6) (cW_th _ _ hi) rfl 2 (by decide) (X.2.2.2.2.2.2.2.1 _ (nw 12 rfl)) (ws' := cW F (uK u (sZ u) (va_up (rC u) i true) (vS u) (rO u) (rL u) (rE u))) (ty := .boolean) rfl (by decide +kernel) rfl rfl (Nat.le_of_ble_eq_true rfl) (cW_setM F u true hi) ?_
        refine gg_aload_n X dX0_reach_29 rfl 0 rfl ?_
        refine gg_get X dX0_reach_30 imX0 3 rfl rfl 1 (by decide) (am 25 rfl) rfl ?_
        refine gg_aload_n X dX0_reach_33 rfl 0 rfl ?_
        refine gg_get X dX0_reach_34 imX0 3 rfl rfl 2 (by decide) (am 26 rfl) rfl ?_
        refine gg_aload_n X dX0_reach_37 rfl 1 rfl ?_
        refine gg_astq X dX0_reach_38 5 1 (2 * i + 6) 1 rfl rfl (cW_th F (uK u (sZ u) (va_up (rC u) i true) (vS u) (rO u) (rL u) (rE u)) hi) rfl (rO u) rfl (by omega) hN (ws' := cW F (uK u (sZ u) (va_up (rC u) i true) (vS u) (rO u) (rL u) (va_up (rE u) (rO u) (some (tH u i))))) rfl ?_
        refine gg_aload_n X dX0_reach_39 rfl 0 rfl ?_
        refine gg_dup X dX0_reach_40 rfl ?_
        refine gg_get X dX0_reach_41 imX0 3 rfl rfl 2 (by decide) (am 26 rfl) rfl ?_
        refine gg_iconst X dX0_reach_44 (v := 1) (by decide) ?_
        refine gg_iadd X dX0_reach_45 (nI_1 _) ?_
        refine gg_put X dX0_reach_46 imX0 tyX0 tyX0_ok nmX0 3 rfl rfl 2 (by decide) (am 26 rfl) (ws' := cW F (uK u (sZ u) (va_up (rC u) i true) (vS u) (rO u + 1) (rL u) (va_up (rE u) (rO u) (some (tH u i))))) (ty := .int) rfl (by decide +kernel) rfl rfl (Nat.le_of_ble_eq_true rfl) (rfl) ?_
        refine gg_aload_n X dX0_reach_49 rfl 0 rfl ?_
        refine gg_dup X dX0_reach_50 rfl ?_
        refine gg_get X dX0_reach_51 imX0 3 rfl rfl 3 (by decide) (am 27 rfl) rfl ?_
        refine gg_iconst X dX0_reach_54 (v := nI 2) (by decide) ?_
        refine gg_aload_n X dX0_reach_55 rfl 1 rfl ?_
        refine gg_getN (host := "SliceHeap") X dX0_reach_56 imX1 (2 * i + 6) (cW_th _ _ hi) rfl 1 (by decide) (X.2.2.2.2.2.2.2.1 _ (nw 11 rfl)) rfl ?_
        refine gg_iadd X dX0_reach_59 (nI_add _ _) ?_
        refine gg_iadd X dX0_reach_60 (nI_add _ _) ?_
        refine gg_put X dX0_reach_61 imX0 tyX0 tyX0_ok nmX0 3 rfl rfl 3 (by decide) (am 27 rfl) (ws' := cW F (mk u i)) (ty := .int) rfl (by decide +kernel) rfl rfl (Nat.le_of_ble_eq_true rfl) (rfl) ?_
        exact gg_vret X dX0_reach_64 hr hk (mk u i) (by show mk u i = if rC u i = true then u else mk u i; rw [if_neg (by rw [hr2]; decide)]) rfl (Nat.le_of_ble_eq_true rfl) (Nat.le_of_ble_eq_true rfl)
      · exact absurd ((nI_ltI (by omega) (by omega)).mpr (by omega)) c_20
theorem k_reach (l : Launch) (D : va_G) (F : CF) (u : CS) (hc : cOk F u) (hw : Wk u) (o : Option Nat) (ho : ∀ i, o = some i → i < nU u) : mG l yX0_reach wX0_reach ({ frames := 0, cells := 0, slots := 0, locals := 0 }) D vwCl (cT F) [.ref (kM F), va_rf (o.map (tH u))] (cW F u) (qV D vwCl (fun (w : CS) => w = rch u o) (cW F)) := by
  cases o with
  | none => exact k_reachN l D F u
  | some i => exact k_reachS l D F u hc hw i (ho i rfl)
set_option maxHeartbeats 4000000 in
set_option maxRecDepth 100000 in
theorem k_reachAll (l : Launch) (D : va_G) (F : CF) (u : CS) (hc : cOk F u) (hw : Wk u) (a q0 ln z : Nat) (g : Nat → Int64) (hz : z ≤ ln) (hln : ln < 2147483648) (hq : ∀ v, Sm u v → (cW F v)[q0]? = some (a, .inl (kJ F, ln, .inr (.inl g)))) : mG l yX0_reachAll wX0_reachAll ({ frames := 1, cells := 0, slots := 0, locals := 24 }) D vwCl (cT F) [.ref (kM F), .ref a, .int (nI z)] (cW F u) (qV D vwCl (fun (w : CS) => pAll u g z w) (cW F)) := by
  refine gg_met (cc := cX0_reachAll) (nL := 4) (ret := none) (lv := [(0, .ref (kM F)), (1, .ref a), (2, .int (nI z))]) (by decide) rfl rfl (Nat.le_of_ble_eq_true rfl) ?_
  intro p_ e_ s_ m_ bl_ me_ cc_ A_ X hr hk hnm
  refine gg_iconst X dX0_reachAll_0 (v := nI 0) (by decide) ?_
  refine gg_istore_n X dX0_reachAll_1 rfl (by decide) rfl ?_
  refine gg_loop (ι := Nat × CS) (fun b => b.1 ≤ z ∧ pAll u g b.1 b.2) (fun b => z - b.1) (fun b => cW F b.2) (fun b => [(3, .int (nI b.1)), (0, .ref (kM F)), (1, .ref a), (2, .int (nI z))]) ?_ (0, u) ⟨Nat.zero_le _, pAll.start hw g⟩
  intro b hb ih
  obtain ⟨q, v⟩ := b
  obtain ⟨hqz, hv⟩ := hb
  have hqz : q ≤ z := hqz
  have hv : pAll u g q v := hv
  have en : nU v = nU u := hv.1.2.2.2.2.2.1
  have hcv : cOk F v := hc.sm hv.1
  refine gg_iload_n X dX0_reachAll_2 rfl 0 rfl ?_
  refine gg_iload_n X dX0_reachAll_3 rfl 3 rfl ?_
  refine gg_icmp_ge (tgt := 30) X dX0_reachAll_4 (by decide) (fun c_4 => ?_) (fun c_4 => ?_)
  · have hq2 : z ≤ q := (nI_leI (by omega) (by omega)).mp c_4
    have e : q = z := by omega
    subst e
    exact gg_vret X dX0_reachAll_30 hr hk v (hv) rfl (Nat.le_of_ble_eq_true rfl) (Nat.le_of_ble_eq_true rfl)
  · have hq2 : ¬ z ≤ q := fun h => c_4 ((nI_leI (by omega) (by omega)).mpr h)
    refine gg_iload_n X dX0_reachAll_7 rfl 0 rfl ?_
    refine gg_aload_n X dX0_reachAll_8 rfl 2 rfl ?_
    refine gg_alen X dX0_reachAll_9 q0 0 (hq v hv.1) rfl (v := nI ln) rfl ?_
    refine gg_icmp_ge (tgt := 30) X dX0_reachAll_10 (by decide) (fun c_10 => ?_) (fun c_10 => ?_)
    · exact absurd ((nI_leI (by omega) (by omega)).mp c_10) (by omega)
    · refine gg_aload_n X dX0_reachAll_13 rfl 1 rfl ?_
      refine gg_aload_n X dX0_reachAll_14 rfl 1 rfl ?_
      refine gg_aload_n X dX0_reachAll_15 rfl 2 rfl ?_
      refine gg_iload_n X dX0_reachAll_16 rfl 0 rfl ?_
      refine gg_lald X dX0_reachAll_17 q0 0 (hq v hv.1) rfl q rfl (by omega) hln ?_
      refine gc_q X (gr_V (q0 := 3) X dX0_reachAll_18 X.2.2.2.2.2.1 (k_thingOf l D F v hcv (g q)) (cwV 1 X.2.2.2.2.1 (gdV (al 63 rfl) (al 64 rfl) (al 235 rfl) (al 3 rfl) (al 65 rfl)) rfl rfl rfl (by decide +kernel) ⟨Nat.le_of_ble_eq_true rfl, Nat.le_of_ble_eq_true rfl⟩) rfl rfl rfl rfl rfl (Nat.le_of_ble_eq_true rfl) ⟨Nat.le_of_ble_eq_true rfl, Nat.le_of_ble_eq_true rfl⟩) (fun r_18 w_18 h_18 => ?_)
      obtain ⟨ew, h_18⟩ := h_18
      rw [ew]
      obtain ⟨o, eo, ho, hoo⟩ := h_18.row
      rw [eo]
      refine gc_v X (gr_V (q0 := 3) X dX0_reachAll_21 X.2.2.2.2.2.1 (k_reach l D F v hcv hv.2.1 o ho) (cwV 1 X.2.2.2.2.1 (gdV (al 67 rfl) (al 68 rfl) (al 236 rfl) (al 3 rfl) (al 69 rfl)) rfl rfl rfl (by decide +kernel) ⟨Nat.le_of_ble_eq_true rfl, Nat.le_of_ble_eq_true rfl⟩) rfl rfl rfl rfl rfl (Nat.le_of_ble_eq_true rfl) ⟨Nat.le_of_ble_eq_true rfl, Nat.le_of_ble_eq_true rfl⟩) (fun w_21 h_21 => ?_)
      rw [h_21]
      refine gg_iinc X dX0_reachAll_24 0 rfl (nI_1 _) (by decide) rfl ?_
      refine gg_goto (tgt := 2) X dX0_reachAll_27 (by decide) ?_
      exact ih (q + 1, rch v o) ⟨by show q + 1 ≤ z; omega, hv.step (by rw [en] at hoo; exact hoo) hc.n⟩ (by show z - (q + 1) < z - q; omega)
set_option maxHeartbeats 4000000 in
set_option maxRecDepth 100000 in
theorem k_follow (l : Launch) (D : va_G) (F : CF) (u : CS) (hc : cOk F u) (hw : Wk u) : mG l yX0_followReached wX0_followReached ({ frames := 2, cells := 0, slots := 0, locals := 47 }) D vwCl (cT F) [.ref (kM F)] (cW F u) (qV D vwCl (fun (w : CS) => pFol u (rO w) w) (cW F)) := by
  refine gg_met (cc := cX0_followReached) (nL := 3) (ret := none) (lv := [(0, .ref (kM F))]) (by decide) rfl rfl (Nat.le_of_ble_eq_true rfl) ?_
  intro p_ e_ s_ m_ bl_ me_ cc_ A_ X hr hk hnm
  refine gg_iconst X dX0_followReached_0 (v := nI 0) (by decide) ?_
  refine gg_istore_n X dX0_followReached_1 rfl (by decide) rfl ?_
  refine gg_loop (ι := Nat × CS) (fun b => pFol u b.1 b.2) (fun b => nU u - b.1) (fun b => cW F b.2) (fun b => [(1, .int (nI b.1)), (0, .ref (kM F))]) ?_ (0, u) (pFol.start hw)
  intro b hv ih
  obtain ⟨q, v⟩ := b
  have hv : pFol u q v := hv
  have en : nU v = nU u := hv.1.2.2.2.2.2.1
  have et : tH v = tH u := hv.1.2.2.2.2.2.2.1
  have ez : sZ v = sZ u := hv.1.2.2.2.2.2.2.2.2.1
  have ev : vS v = vS u := hv.1.2.2.2.2.2.2.2.2.2
  have hcv : cOk F v := hc.sm hv.1
  have hle : rO v ≤ nU v := hv.2.1.le
  have hqo : q ≤ rO v := hv.2.2.2.1
  have hN := hc.N
  have hn := hc.n
  have h4 := hc.2.2.2.1
  refine gg_iload_n X dX0_followReached_2 rfl 0 rfl ?_
  refine gg_aload_n X dX0_followReached_3 rfl 1 rfl ?_
  refine gg_get X dX0_followReached_4 imX0 3 rfl rfl 2 (by decide) (am 26 rfl) rfl ?_
  refine gg_icmp_ge (tgt := 48) X dX0_followReached_7 (by decide) (fun c_7 => ?_) (fun c_7 => ?_)
  · have hq2 : rO v ≤ q := (nI_leI (a := rO v) (b := q) (by omega) (by omega)).mp c_7
    have e : q = rO v := by omega
    subst e
    exact gg_vret X dX0_followReached_48 hr hk v (hv) rfl (Nat.le_of_ble_eq_true rfl) (Nat.le_of_ble_eq_true rfl)
  · have hq2 : ¬ rO v ≤ q := fun h => c_7 ((nI_leI (a := rO v) (b := q) (by omega) (by omega)).mpr h)
    obtain ⟨i, hi, hei, hri⟩ := hv.2.1.2.2.1 q (by omega)
    have h20 := hcv.2.2.2.2.2 i hi
    refine gg_iload_n X dX0_followReached_10 rfl 0 rfl ?_
    refine gg_aload_n X dX0_followReached_11 rfl 1 rfl ?_
    refine gg_get X dX0_followReached_12 imX0 3 rfl rfl 1 (by decide) (am 25 rfl) rfl ?_
    refine gg_alen X dX0_followReached_15 5 1 rfl rfl (v := nI (kN F)) rfl ?_
    refine gg_icmp_ge (tgt := 48) X dX0_followReached_16 (by decide) (fun c_16 => ?_) (fun c_16 => ?_)
    · exact absurd ((nI_leI (by omega) (by omega)).mp c_16) (by omega)
    · refine gg_aload_n X dX0_followReached_19 rfl 1 rfl ?_
      refine gg_get X dX0_followReached_20 imX0 3 rfl rfl 1 (by decide) (am 25 rfl) rfl ?_
      refine gg_iload_n X dX0_followReached_23 rfl 0 rfl ?_
      refine gg_aldq X dX0_followReached_24 5 1 rfl rfl q rfl (by omega) hN (r := some (tH v i)) hei ?_
      refine gg_astore_n X dX0_followReached_25 rfl (by decide) rfl ?_
      refine gg_aload_n X dX0_followReached_26 rfl 0 rfl ?_
      refine gg_ifnullS X dX0_followReached_27 ?_
      refine gg_aload_n X dX0_followReached_30 rfl 2 rfl ?_
      refine gg_aload_n X dX0_followReached_31 rfl 0 rfl ?_
      refine gg_getN (host := "SliceHeap") X dX0_followReached_32 imX1 (2 * i + 6) (cW_th _ _ hi) rfl 0 (by decide) (X.2.2.2.2.2.2.2.1 _ (nw 9 rfl)) rfl ?_
      refine gg_aload_n X dX0_followReached_35 rfl 0 rfl ?_
      refine gg_getN (host := "SliceHeap") X dX0_followReached_36 imX1 (2 * i + 6) (cW_th _ _ hi) rfl 1 (by decide) (X.2.2.2.2.2.2.2.1 _ (nw 11 rfl)) rfl ?_
      refine gc_v X (gr_V (q0 := 3) X dX0_followReached_39 X.2.2.2.2.2.1 (k_reachAll l D F v hcv hv.2.1 (aR v i) (2 * i + 7) 20 (sZ v i) (vS v i) h20 (by decide) (fun w hs => by
          have h := cW_ar F w (i := i) (by rw [hs.2.2.2.2.2.1]; exact hi)
          rw [hs.2.2.2.2.2.2.2.1, hs.2.2.2.2.2.2.2.2.2] at h
          exact h)) (cwV 2 X.2.2.2.2.1 (gdV (al 72 rfl) (al 61 rfl) (al 234 rfl) (al 3 rfl) (al 62 rfl)) rfl rfl rfl (by decide +kernel) ⟨Nat.le_of_ble_eq_true rfl, Nat.le_of_ble_eq_true rfl⟩) rfl rfl rfl rfl rfl (Nat.le_of_ble_eq_true rfl) ⟨Nat.le_of_ble_eq_true rfl, Nat.le_of_ble_eq_true rfl⟩) (fun w_39 h_39 => ?_)
      refine gg_iinc X dX0_followReached_42 1 rfl (nI_1 _) (by decide) rfl ?_
      refine gg_goto (tgt := 2) X dX0_followReached_45 (by decide) ?_
      refine gg_lv [0, 2] rfl ?_
      exact ih (q + 1, w_39) (hv.step (by omega) (by omega) (by rw [← et]; exact hei) hri (by rw [← ev, ← ez]; exact h_39)) (by show nU u - (q + 1) < nU u - q; omega)
