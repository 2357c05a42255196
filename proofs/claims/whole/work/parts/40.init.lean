set_option maxHeartbeats 4000000 in
set_option maxRecDepth 100000 in
theorem k_fillJ (l : Launch) (D : va_G) (J T : ClassId) (a n : Nat) (hn : n < 2147483648) (f : Nat → Int64) (x : Int64) : mG l yJ_fill wJ_fill ({ frames := 0, cells := 0, slots := 0, locals := 0 }) D vwCl [(J, .long), (T, .object "SliceHeap$Thing")] [.ref a, .long x] [(a, .inl (J, n, .inr (.inl f)))] (qV D vwCl (fun (g : Nat → Int64) => ∀ k, k < n → g k = x) (fun g => [(a, .inl (J, n, .inr (.inl g)))])) := by
  refine gg_met (cc := cJ_fill) (nL := 5) (ret := none) (lv := [(0, .ref a), (1, .long x)]) (by decide) rfl rfl (Nat.le_of_ble_eq_true rfl) ?_
  intro p_ e_ s_ m_ bl_ me_ cc_ A_ X hr hk hnm
  refine gg_iconst X dJ_fill_0 (v := nI 0) (by decide) ?_
  refine gg_istore_n X dJ_fill_1 rfl (by decide) rfl ?_
  refine gg_aload_n X dJ_fill_2 rfl 1 rfl ?_
  refine gg_alen X dJ_fill_3 0 0 rfl rfl (v := nI n) rfl ?_
  refine gg_istore X dJ_fill_4 (by decide) rfl ?_
  refine gg_lv [1, 0, 2, 3] rfl ?_
  refine gg_loop (ι := Nat × (Nat → Int64)) (fun b => b.1 ≤ n ∧ ∀ k, k < b.1 → b.2 k = x) (fun b => n - b.1) (fun b => [(a, .inl (J, n, .inr (.inl b.2)))]) (fun b => [(3, .int (nI b.1)), (4, .int (nI n)), (0, .ref a), (1, .long x)]) ?_ (0, f) ⟨Nat.zero_le _, fun k hk => absurd hk (Nat.not_lt_zero k)⟩
  intro b hb ih
  obtain ⟨q, g⟩ := b
  obtain ⟨h1, h2⟩ := hb
  have h1 : q ≤ n := h1
  have h2 : ∀ k, k < q → g k = x := h2
  refine gg_iload_n X dJ_fill_6 rfl 0 rfl ?_
  refine gg_iload X dJ_fill_7 1 rfl ?_
  refine gg_icmp_ge (tgt := 22) X dJ_fill_9 (by decide) (fun c_9 => ?_) (fun c_9 => ?_)
  · have hq2 : n ≤ q := (nI_leI (a := n) (b := q) (by omega) (by omega)).mp c_9
    exact gg_vret X dJ_fill_22 hr hk g (fun k hk => h2 k (by omega)) rfl (Nat.le_of_ble_eq_true rfl) (Nat.le_of_ble_eq_true rfl)
  · have hq2 : ¬ n ≤ q := fun h => c_9 ((nI_leI (a := n) (b := q) (by omega) (by omega)).mpr h)
    refine gg_aload_n X dJ_fill_12 rfl 2 rfl ?_
    refine gg_iload_n X dJ_fill_13 rfl 0 rfl ?_
    refine gg_lload_n X dJ_fill_14 rfl 3 rfl ?_
    refine gg_last X dJ_fill_15 0 0 rfl rfl q rfl (by omega) hn (ws' := [(a, .inl (J, n, .inr (.inl (vp_updL g q x))))]) rfl ?_
    refine gg_iinc X dJ_fill_16 0 rfl (nI_1 _) (by decide) rfl ?_
    refine gg_goto (tgt := 6) X dJ_fill_19 (by decide) ?_
    exact ih (q + 1, vp_updL g q x) ⟨by show q + 1 ≤ n; omega, fun k hk => by
      show vp_updL g q x k = x
      have hk : k < q + 1 := hk
      by_cases e : k = q
      · rw [e, pk_uLs]
      · rw [pk_uLn e]; exact h2 k (by omega)⟩ (by show n - (q + 1) < n - q; omega)
set_option maxHeartbeats 4000000 in
set_option maxRecDepth 100000 in
theorem k_memInit (l : Launch) (D : va_G) (J T : ClassId) (q N : Nat) (hN : N ≤ 1500) : mG l yX0_init wX0_init ({ frames := 1, cells := 2, slots := 3000, locals := 30 }) D vwCl [(J, .long), (T, .object "SliceHeap$Thing")] [.ref q, .int (nI N)] [(q, .inr (0, [.null, .null, .int 0, .int 0]))] (qV D vwCl (fun (_ : Nat × Nat) => True) (fun w => [(q, .inr (0, [.ref w.1, .ref w.2, .int 0, .int 0])), (w.1, .inl (T, N, .inr (.inr (.inr (.inr (fun _ => none)))))), (w.2, .inl (T, N, .inr (.inr (.inr (.inr (fun _ => none))))))])) := by
  refine gg_met (cc := cX0_init) (nL := 2) (ret := none) (lv := [(0, .ref q), (1, .int (nI N))]) (by decide) rfl rfl (Nat.le_of_ble_eq_true rfl) ?_
  intro p_ e_ s_ m_ bl_ me_ cc_ A_ X hr hk hnm
  refine gg_aload_n X dX0_init_0 rfl 0 rfl ?_
  refine gg_objInit X dX0_init_1 (am 22 rfl) (am 12 rfl) (am 13 rfl) (Nat.le_of_ble_eq_true rfl) (Nat.le_of_ble_eq_true rfl) ?_
  refine gg_aload_n X dX0_init_4 rfl 0 rfl ?_
  refine gg_iload_n X dX0_init_5 rfl 1 rfl ?_
  refine gg_newq X dX0_init_6 (am 23 rfl) X.2.2.2.2.2.2.2.2 1 rfl N rfl (by omega) (by omega) (by show _ ≤ 2; omega) (by show _ ≤ 3000; omega) (fun a => ?_)
  refine gg_putF X dX0_init_9 imX0 tyX0 tyX0_ok nmX0 0 rfl rfl 0 (by decide) (am 24 rfl) hnm rfl (ws' := [(q, .inr (0, [.ref a, .null, .int 0, .int 0])), (a, .inl (T, N, .inr (.inr (.inr (.inr (fun _ => none))))))]) (ty := .array (.object "SliceHeap$Thing")) rfl (by decide +kernel) rfl rfl (Nat.le_of_ble_eq_true rfl) (rfl) ?_
  refine gg_aload_n X dX0_init_12 rfl 0 rfl ?_
  refine gg_iload_n X dX0_init_13 rfl 1 rfl ?_
  refine gg_newq X dX0_init_14 (am 23 rfl) X.2.2.2.2.2.2.2.2 1 rfl N rfl (by omega) (by omega) (by show _ ≤ 2; omega) (by show _ ≤ 3000; omega) (fun b => ?_)
  refine gg_putF X dX0_init_17 imX0 tyX0 tyX0_ok nmX0 0 rfl rfl 1 (by decide) (am 25 rfl) hnm rfl (ws' := [(q, .inr (0, [.ref a, .ref b, .int 0, .int 0])), (a, .inl (T, N, .inr (.inr (.inr (.inr (fun _ => none)))))), (b, .inl (T, N, .inr (.inr (.inr (.inr (fun _ => none))))))]) (ty := .array (.object "SliceHeap$Thing")) rfl (by decide +kernel) rfl rfl (Nat.le_of_ble_eq_true rfl) (rfl) ?_
  exact gg_vret X dX0_init_20 hr hk (a, b) trivial rfl (by show _ ≤ 2; omega) (by show _ ≤ 3000; omega)
set_option maxHeartbeats 4000000 in
set_option maxRecDepth 100000 in
theorem k_heapInit (l : Launch) (D : va_G) (J T : ClassId) (h : Nat) (c : Int32) : mG l yX2_init wX2_init ({ frames := 2, cells := 5, slots := 3064, locals := 51 }) D vwCl [(J, .long), (T, .object "SliceHeap$Thing")] [.ref h, .int c] [(h, .inr (2, [.int 0, .null, .null, .null, .int 0, .int 0, .int 0]))] (qV D vwCl (fun (w : CF × CS) => pNew w.1 w.2 h J T (capC c)) (fun w => cW w.1 w.2)) := by
  refine gg_met (cc := cX2_init) (nL := 2) (ret := none) (lv := [(0, .ref h), (1, .int c)]) (by decide) rfl rfl (Nat.le_of_ble_eq_true rfl) ?_
  intro p_ e_ s_ m_ bl_ me_ cc_ A_ X hr hk hnm
  have hC := capC_ok c
  refine gg_aload_n X dX2_init_0 rfl 0 rfl ?_
  refine gg_objInit X dX2_init_1 (am 11 rfl) (am 12 rfl) (am 13 rfl) (Nat.le_of_ble_eq_true rfl) (Nat.le_of_ble_eq_true rfl) ?_
  refine gg_aload_n X dX2_init_4 rfl 0 rfl ?_
  refine gg_iload_n X dX2_init_5 rfl 1 rfl ?_
  refine gg_bipush X dX2_init_6 (v := nI 20) (by decide) ?_
  refine gg_icmp_lt (tgt := 22) X dX2_init_8 (by decide) (fun c_8 => ?_) (fun c_8 => ?_)
  · have eC : capC c = 300 := capC_lo c_8
    refine gg_sipush X dX2_init_22 (v := nI 300) (by decide) ?_
    refine gg_st (st' := [.int (nI (capC c)), .ref h]) (by rw [eC]) ?_
    refine gg_putF X dX2_init_25 imX2 tyX2 tyX2_ok nmX2 0 rfl rfl 0 (by decide) (am 33 rfl) hnm rfl (ws' := [(h, .inr (2, [.int (nI (capC c)), .null, .null, .null, .int 0, .int 0, .int 0]))]) (ty := .int) rfl (by decide +kernel) rfl rfl (Nat.le_of_ble_eq_true rfl) (rfl) ?_
    refine gg_aload_n X dX2_init_28 rfl 0 rfl ?_
    refine gg_bipush X dX2_init_29 (v := nI 10) (by decide) ?_
    refine gg_newa X dX2_init_31 (ty := .long) rfl (fun _ h => by cases h) (am 32 rfl) 0 rfl 10 (a0 := (10, .inr (.inl (fun _ => 0)))) (fun _ => rfl) rfl (by decide) (by decide) (Nat.le_of_ble_eq_true rfl) (Nat.le_of_ble_eq_true rfl) (fun r => ?_)
    refine gg_putF X dX2_init_33 imX2 tyX2 tyX2_ok nmX2 0 rfl rfl 1 (by decide) (am 34 rfl) hnm rfl (ws' := [(h, .inr (2, [.int (nI (capC c)), .ref r, .null, .null, .int 0, .int 0, .int 0])), (r, .inl (J, 10, .inr (.inl (fun _ => 0))))]) (ty := .array .long) rfl (by decide +kernel) rfl rfl (Nat.le_of_ble_eq_true rfl) (rfl) ?_
    refine gg_aload_n X dX2_init_36 rfl 0 rfl ?_
    refine gg_get X dX2_init_37 imX2 0 rfl rfl 1 (by decide) (am 34 rfl) rfl ?_
    refine gg_ldc2 X (v := 4294967296) (am 14 rfl) dX2_init_40 ?_
    refine gg_ws (ws' := [(h, .inr (2, [.int (nI (capC c)), .ref r, .null, .null, .int 0, .int 0, .int 0]))] ++ [(r, .inl (J, 10, .inr (.inl (fun _ => 0))))]) rfl ?_
    refine gc_vR X (gr_S X dX2_init_43 X.2.2.2.2.2.1 (k_fillJ l D J T r 10 (by decide) (fun _ => 0) 4294967296) (va_cwS 2 X.2.2.2.2.1 (gdO (al 15 rfl) (al 16 rfl) (al 2 rfl) (al 17 rfl)) rfl rfl rfl (by decide +kernel) ⟨Nat.le_of_ble_eq_true rfl, Nat.le_of_ble_eq_true rfl⟩) rfl rfl (Nat.le_of_ble_eq_true rfl) ⟨Nat.le_of_ble_eq_true rfl, Nat.le_of_ble_eq_true rfl⟩) (fun g hg => ?_)
    refine gg_ws (ws' := [(h, .inr (2, [.int (nI (capC c)), .ref r, .null, .null, .int 0, .int 0, .int 0])), (r, .inl (J, 10, .inr (.inl g)))]) rfl ?_
    refine gg_aload_n X dX2_init_46 rfl 0 rfl ?_
    refine gg_bipush X dX2_init_47 (v := nI 50) (by decide) ?_
    refine gg_newa X dX2_init_49 (ty := .long) rfl (fun _ h => by cases h) (am 32 rfl) 0 rfl 50 (a0 := (50, .inr (.inl (fun _ => 0)))) (fun _ => rfl) rfl (by decide) (by decide) (Nat.le_of_ble_eq_true rfl) (Nat.le_of_ble_eq_true rfl) (fun k => ?_)
    refine gg_putF X dX2_init_51 imX2 tyX2 tyX2_ok nmX2 0 rfl rfl 2 (by decide) (am 35 rfl) hnm rfl (ws' := [(h, .inr (2, [.int (nI (capC c)), .ref r, .ref k, .null, .int 0, .int 0, .int 0])), (r, .inl (J, 10, .inr (.inl g))), (k, .inl (J, 50, .inr (.inl (fun _ => 0))))]) (ty := .array .long) rfl (by decide +kernel) rfl rfl (Nat.le_of_ble_eq_true rfl) (rfl) ?_
    refine gg_aload_n X dX2_init_54 rfl 0 rfl ?_
    refine gg_new (C := RX0) (T := TX0) (N' := 4) (ci := 0) X dX2_init_55 imX0 tyX0 tyX0_ok (am 18 rfl) (am 19 rfl) (am 3 rfl) rfl (fs := [.null, .null, .int 0, .int 0]) (fun j hj => by rcases (show j = 0 ∨ j = 1 ∨ j = 2 ∨ j = 3 by omega) with rfl | rfl | rfl | rfl <;> rfl) (Nat.le_of_ble_eq_true rfl) (Nat.le_of_ble_eq_true rfl) (fun q => ?_)
    refine gg_dup X dX2_init_58 rfl ?_
    refine gg_aload_n X dX2_init_59 rfl 0 rfl ?_
    refine gg_get X dX2_init_60 imX2 0 rfl rfl 0 (by decide) (am 33 rfl) rfl ?_
    refine gg_iconst X dX2_init_63 (v := nI 2) (by decide) ?_
    refine gg_idiv X dX2_init_64 (by decide) (pk_div (a := capC c) (d := 2) (by omega) (by omega) (by omega)) ?_
    refine gc_vR X (gr_IN (host := "SliceHeap") X dX2_init_65 X.2.2.2.2.2.1 (k_memInit l D J T q (capC c / 2) (by omega)) ⟨va_cnB 1 X.2.2.2.2.1 (gd0 (al 21 rfl)) rfl rfl rfl (X.2.2.2.2.2.2.2.1 _ (nw 0 rfl)) (X.2.2.2.2.1 _ (am 3 rfl)) (by decide +kernel) ⟨Nat.le_of_ble_eq_true rfl, Nat.le_of_ble_eq_true rfl⟩, rfl, (X.2.2.2.2.1 _ (am 20 rfl))⟩ rfl rfl (Nat.le_of_ble_eq_true rfl) ⟨Nat.le_of_ble_eq_true rfl, Nat.le_of_ble_eq_true rfl⟩) (fun w hw => ?_)
    refine gg_putF X dX2_init_68 imX2 tyX2 tyX2_ok nmX2 0 rfl rfl 3 (by decide) (am 36 rfl) hnm rfl (ws' := [(h, .inr (2, [.int (nI (capC c)), .ref r, .ref k, .ref q, .int 0, .int 0, .int 0])), (r, .inl (J, 10, .inr (.inl g))), (k, .inl (J, 50, .inr (.inl (fun _ => 0)))), (q, .inr (0, [.ref w.1, .ref w.2, .int 0, .int 0])), (w.1, .inl (T, capC c / 2, .inr (.inr (.inr (.inr (fun _ => none)))))), (w.2, .inl (T, capC c / 2, .inr (.inr (.inr (.inr (fun _ => none))))))]) (ty := .object "SliceHeap$Memory") rfl (by decide +kernel) rfl rfl (Nat.le_of_ble_eq_true rfl) (rfl) ?_
    refine gg_ws (ws' := cW ((((h, r), k), (q, w.1)), (((w.2, J), T), (capC c / 2, capC c))) ((((g, fun _ => 0), (0, 0)), ((0, 0), fun _ => 0)), (((fun _ => 0, fun _ => 0), (fun _ => false, fun _ _ => 0)), ((0, 0), fun _ => none)))) (by unfold cW; rw [rW_zero]; rfl) ?_
    exact gg_vret X dX2_init_71 hr hk (((((h, r), k), (q, w.1)), (((w.2, J), T), (capC c / 2, capC c))), ((((g, fun _ => 0), (0, 0)), ((0, 0), fun _ => 0)), (((fun _ => 0, fun _ => 0), (fun _ => false, fun _ _ => 0)), ((0, 0), fun _ => none)))) (pNew.of hC hg) rfl (Nat.le_of_ble_eq_true rfl) (Nat.le_of_ble_eq_true rfl)
  · refine gg_iload_n X dX2_init_11 rfl 1 rfl ?_
    refine gg_sipush X dX2_init_12 (v := nI 3000) (by decide) ?_
    refine gg_icmp_gt (tgt := 22) X dX2_init_15 (by decide) (fun c_15 => ?_) (fun c_15 => ?_)
    · have eC : capC c = 300 := capC_hi c_15
      refine gg_sipush X dX2_init_22 (v := nI 300) (by decide) ?_
      refine gg_st (st' := [.int (nI (capC c)), .ref h]) (by rw [eC]) ?_
      refine gg_putF X dX2_init_25 imX2 tyX2 tyX2_ok nmX2 0 rfl rfl 0 (by decide) (am 33 rfl) hnm rfl (ws' := [(h, .inr (2, [.int (nI (capC c)), .null, .null, .null, .int 0, .int 0, .int 0]))]) (ty := .int) rfl (by decide +kernel) rfl rfl (Nat.le_of_ble_eq_true rfl) (rfl) ?_
      refine gg_aload_n X dX2_init_28 rfl 0 rfl ?_
      refine gg_bipush X dX2_init_29 (v := nI 10) (by decide) ?_
      refine gg_newa X dX2_init_31 (ty := .long) rfl (fun _ h => by cases h) (am 32 rfl) 0 rfl 10 (a0 := (10, .inr (.inl (fun _ => 0)))) (fun _ => rfl) rfl (by decide) (by decide) (Nat.le_of_ble_eq_true rfl) (Nat.le_of_ble_eq_true rfl) (fun r => ?_)
      refine gg_putF X dX2_init_33 imX2 tyX2 tyX2_ok nmX2 0 rfl rfl 1 (by decide) (am 34 rfl) hnm rfl (ws' := [(h, .inr (2, [.int (nI (capC c)), .ref r, .null, .null, .int 0, .int 0, .int 0])), (r, .inl (J, 10, .inr (.inl (fun _ => 0))))]) (ty := .array .long) rfl (by decide +kernel) rfl rfl (Nat.le_of_ble_eq_true rfl) (rfl) ?_
      refine gg_aload_n X dX2_init_36 rfl 0 rfl ?_
      refine gg_get X dX2_init_37 imX2 0 rfl rfl 1 (by decide) (am 34 rfl) rfl ?_
      refine gg_ldc2 X (v := 4294967296) (am 14 rfl) dX2_init_40 ?_
      refine gg_ws (ws' := [(h, .inr (2, [.int (nI (capC c)), .ref r, .null, .null, .int 0, .int 0, .int 0]))] ++ [(r, .inl (J, 10, .inr (.inl (fun _ => 0))))]) rfl ?_
      refine gc_vR X (gr_S X dX2_init_43 X.2.2.2.2.2.1 (k_fillJ l D J T r 10 (by decide) (fun _ => 0) 4294967296) (va_cwS 2 X.2.2.2.2.1 (gdO (al 15 rfl) (al 16 rfl) (al 2 rfl) (al 17 rfl)) rfl rfl rfl (by decide +kernel) ⟨Nat.le_of_ble_eq_true rfl, Nat.le_of_ble_eq_true rfl⟩) rfl rfl (Nat.le_of_ble_eq_true rfl) ⟨Nat.le_of_ble_eq_true rfl, Nat.le_of_ble_eq_true rfl⟩) (fun g hg => ?_)
      refine gg_ws (ws' := [(h, .inr (2, [.int (nI (capC c)), .ref r, .null, .null, .int 0, .int 0, .int 0])), (r, .inl (J, 10, .inr (.inl g)))]) rfl ?_
      refine gg_aload_n X dX2_init_46 rfl 0 rfl ?_
      refine gg_bipush X dX2_init_47 (v := nI 50) (by decide) ?_
      refine gg_newa X dX2_init_49 (ty := .long) rfl (fun _ h => by cases h) (am 32 rfl) 0 rfl 50 (a0 := (50, .inr (.inl (fun _ => 0)))) (fun _ => rfl) rfl (by decide) (by decide) (Nat.le_of_ble_eq_true rfl) (Nat.le_of_ble_eq_true rfl) (fun k => ?_)
      refine gg_putF X dX2_init_51 imX2 tyX2 tyX2_ok nmX2 0 rfl rfl 2 (by decide) (am 35 rfl) hnm rfl (ws' := [(h, .inr (2, [.int (nI (capC c)), .ref r, .ref k, .null, .int 0, .int 0, .int 0])), (r, .inl (J, 10, .inr (.inl g))), (k, .inl (J, 50, .inr (.inl (fun _ => 0))))]) (ty := .array .long) rfl (by decide +kernel) rfl rfl (Nat.le_of_ble_eq_true rfl) (rfl) ?_
      refine gg_aload_n X dX2_init_54 rfl 0 rfl ?_
      refine gg_new (C := RX0) (T := TX0) (N' := 4) (ci := 0) X dX2_init_55 imX0 tyX0 tyX0_ok (am 18 rfl) (am 19 rfl) (am 3 rfl) rfl (fs := [.null, .null, .int 0, .int 0]) (fun j hj => by rcases (show j = 0 ∨ j = 1 ∨ j = 2 ∨ j = 3 by omega) with rfl | rfl | rfl | rfl <;> rfl) (Nat.le_of_ble_eq_true rfl) (Nat.le_of_ble_eq_true rfl) (fun q => ?_)
      refine gg_dup X dX2_init_58 rfl ?_
      refine gg_aload_n X dX2_init_59 rfl 0 rfl ?_
      refine gg_get X dX2_init_60 imX2 0 rfl rfl 0 (by decide) (am 33 rfl) rfl ?_
      refine gg_iconst X dX2_init_63 (v := nI 2) (by decide) ?_
      refine gg_idiv X dX2_init_64 (by decide) (pk_div (a := capC c) (d := 2) (by omega) (by omega) (by omega)) ?_
      refine gc_vR X (gr_IN (host := "SliceHeap") X dX2_init_65 X.2.2.2.2.2.1 (k_memInit l D J T q (capC c / 2) (by omega)) ⟨va_cnB 1 X.2.2.2.2.1 (gd0 (al 21 rfl)) rfl rfl rfl (X.2.2.2.2.2.2.2.1 _ (nw 0 rfl)) (X.2.2.2.2.1 _ (am 3 rfl)) (by decide +kernel) ⟨Nat.le_of_ble_eq_true rfl, Nat.le_of_ble_eq_true rfl⟩, rfl, (X.2.2.2.2.1 _ (am 20 rfl))⟩ rfl rfl (Nat.le_of_ble_eq_true rfl) ⟨Nat.le_of_ble_eq_true rfl, Nat.le_of_ble_eq_true rfl⟩) (fun w hw => ?_)
      refine gg_putF X dX2_init_68 imX2 tyX2 tyX2_ok nmX2 0 rfl rfl 3 (by decide) (am 36 rfl) hnm rfl (ws' := [(h, .inr (2, [.int (nI (capC c)), .ref r, .ref k, .ref q, .int 0, .int 0, .int 0])), (r, .inl (J, 10, .inr (.inl g))), (k, .inl (J, 50, .inr (.inl (fun _ => 0)))), (q, .inr (0, [.ref w.1, .ref w.2, .int 0, .int 0])), (w.1, .inl (T, capC c / 2, .inr (.inr (.inr (.inr (fun _ => none)))))), (w.2, .inl (T, capC c / 2, .inr (.inr (.inr (.inr (fun _ => none))))))]) (ty := .object "SliceHeap$Memory") rfl (by decide +kernel) rfl rfl (Nat.le_of_ble_eq_true rfl) (rfl) ?_
      refine gg_ws (ws' := cW ((((h, r), k), (q, w.1)), (((w.2, J), T), (capC c / 2, capC c))) ((((g, fun _ => 0), (0, 0)), ((0, 0), fun _ => 0)), (((fun _ => 0, fun _ => 0), (fun _ => false, fun _ _ => 0)), ((0, 0), fun _ => none)))) (by unfold cW; rw [rW_zero]; rfl) ?_
      exact gg_vret X dX2_init_71 hr hk (((((h, r), k), (q, w.1)), (((w.2, J), T), (capC c / 2, capC c))), ((((g, fun _ => 0), (0, 0)), ((0, 0), fun _ => 0)), (((fun _ => 0, fun _ => 0), (fun _ => false, fun _ _ => 0)), ((0, 0), fun _ => none)))) (pNew.of hC hg) rfl (Nat.le_of_ble_eq_true rfl) (Nat.le_of_ble_eq_true rfl)
    · obtain ⟨z, hz, ez⟩ := capC_in c_8 c_15
      refine gg_iload_n X dX2_init_18 rfl 1 rfl ?_
      refine gg_goto (tgt := 25) X dX2_init_19 (by decide) ?_
      refine gg_st (st' := [.int (nI (capC c)), .ref h]) (by rw [← ez, ← hz]) ?_
      refine gg_putF X dX2_init_25 imX2 tyX2 tyX2_ok nmX2 0 rfl rfl 0 (by decide) (am 33 rfl) hnm rfl (ws' := [(h, .inr (2, [.int (nI (capC c)), .null, .null, .null, .int 0, .int 0, .int 0]))]) (ty := .int) rfl (by decide +kernel) rfl rfl (Nat.le_of_ble_eq_true rfl) (rfl) ?_
      refine gg_aload_n X dX2_init_28 rfl 0 rfl ?_
      refine gg_bipush X dX2_init_29 (v := nI 10) (by decide) ?_
      refine gg_newa X dX2_init_31 (ty := .long) rfl (fun _ h => by cases h) (am 32 rfl) 0 rfl 10 (a0 := (10, .inr (.inl (fun _ => 0)))) (fun _ => rfl) rfl (by decide) (by decide) (Nat.le_of_ble_eq_true rfl) (Nat.le_of_ble_eq_true rfl) (fun r => ?_)
      refine gg_putF X dX2_init_33 imX2 tyX2 tyX2_ok nmX2 0 rfl rfl 1 (by decide) (am 34 rfl) hnm rfl (ws' := [(h, .inr (2, [.int (nI (capC c)), .ref r, .null, .null, .int 0, .int 0, .int 0])), (r, .inl (J, 10, .inr (.inl (fun _ => 0))))]) (ty := .array .long) rfl (by decide +kernel) rfl rfl (Nat.le_of_ble_eq_true rfl) (rfl) ?_
      refine gg_aload_n X dX2_init_36 rfl 0 rfl ?_
      refine gg_get X dX2_init_37 imX2 0 rfl rfl 1 (by decide) (am 34 rfl) rfl ?_
      refine gg_ldc2 X (v := 4294967296) (am 14 rfl) dX2_init_40 ?_
      refine gg_ws (ws' := [(h, .inr (2, [.int (nI (capC c)), .ref r, .null, .null, .int 0, .int 0, .int 0]))] ++ [(r, .inl (J, 10, .inr (.inl (fun _ => 0))))]) rfl ?_
      refine gc_vR X (gr_S X dX2_init_43 X.2.2.2.2.2.1 (k_fillJ l D J T r 10 (by decide) (fun _ => 0) 4294967296) (va_cwS 2 X.2.2.2.2.1 (gdO (al 15 rfl) (al 16 rfl) (al 2 rfl) (al 17 rfl)) rfl rfl rfl (by decide +kernel) ⟨Nat.le_of_ble_eq_true rfl, Nat.le_of_ble_eq_true rfl⟩) rfl rfl (Nat.le_of_ble_eq_true rfl) ⟨Nat.le_of_ble_eq_true rfl, Nat.le_of_ble_eq_true rfl⟩) (fun g hg => ?_)
      refine gg_ws (ws' := [(h, .inr (2, [.int (nI (capC c)), .ref r, .null, .null, .int 0, .int 0, .int 0])), (r, .inl (J, 10, .inr (.inl g)))]) rfl ?_
      refine gg_aload_n X dX2_init_46 rfl 0 rfl ?_
      refine gg_bipush X dX2_init_47 (v := nI 50) (by decide) ?_
      refine gg_newa X dX2_init_49 (ty := .long) rfl (fun _ h => by cases h) (am 32 rfl) 0 rfl 50 (a0 := (50, .inr (.inl (fun _ => 0)))) (fun _ => rfl) rfl (by decide) (by decide) (Nat.le_of_ble_eq_true rfl) (Nat.le_of_ble_eq_true rfl) (fun k => ?_)
      refine gg_putF X dX2_init_51 imX2 tyX2 tyX2_ok nmX2 0 rfl rfl 2 (by decide) (am 35 rfl) hnm rfl (ws' := [(h, .inr (2, [.int (nI (capC c)), .ref r, .ref k, .null, .int 0, .int 0, .int 0])), (r, .inl (J, 10, .inr (.inl g))), (k, .inl (J, 50, .inr (.inl (fun _ => 0))))]) (ty := .array .long) rfl (by decide +kernel) rfl rfl (Nat.le_of_ble_eq_true rfl) (rfl) ?_
      refine gg_aload_n X dX2_init_54 rfl 0 rfl ?_
      refine gg_new (C := RX0) (T := TX0) (N' := 4) (ci := 0) X dX2_init_55 imX0 tyX0 tyX0_ok (am 18 rfl) (am 19 rfl) (am 3 rfl) rfl (fs := [.null, .null, .int 0, .int 0]) (fun j hj => by rcases (show j = 0 ∨ j = 1 ∨ j = 2 ∨ j = 3 by omega) with rfl | rfl | rfl | rfl <;> rfl) (Nat.le_of_ble_eq_true rfl) (Nat.le_of_ble_eq_true rfl) (fun q => ?_)
      refine gg_dup X dX2_init_58 rfl ?_
      refine gg_aload_n X dX2_init_59 rfl 0 rfl ?_
      refine gg_get X dX2_init_60 imX2 0 rfl rfl 0 (by decide) (am 33 rfl) rfl ?_
      refine gg_iconst X dX2_init_63 (v := nI 2) (by decide) ?_
      refine gg_idiv X dX2_init_64 (by decide) (pk_div (a := capC c) (d := 2) (by omega) (by omega) (by omega)) ?_
      refine gc_vR X (gr_IN (host := "SliceHeap") X dX2_init_65 X.2.2.2.2.2.1 (k_memInit l D J T q (capC c / 2) (by omega)) ⟨va_cnB 1 X.2.2.2.2.1 (gd0 (al 21 rfl)) rfl rfl rfl (X.2.2.2.2.2.2.2.1 _ (nw 0 rfl)) (X.2.2.2.2.1 _ (am 3 rfl)) (by decide +kernel) ⟨Nat.le_of_ble_eq_true rfl, Nat.le_of_ble_eq_true rfl⟩, rfl, (X.2.2.2.2.1 _ (am 20 rfl))⟩ rfl rfl (Nat.le_of_ble_eq_true rfl) ⟨Nat.le_of_ble_eq_true rfl, Nat.le_of_ble_eq_true rfl⟩) (fun w hw => ?_)
      refine gg_putF X dX2_init_68 imX2 tyX2 tyX2_ok nmX2 0 rfl rfl 3 (by decide) (am 36 rfl) hnm rfl (ws' := [(h, .inr (2, [.int (nI (capC c)), .ref r, .ref k, .ref q, .int 0, .int 0, .int 0])), (r, .inl (J, 10, .inr (.inl g))), (k, .inl (J, 50, .inr (.inl (fun _ => 0)))), (q, .inr (0, [.ref w.1, .ref w.2, .int 0, .int 0])), (w.1, .inl (T, capC c / 2, .inr (.inr (.inr (.inr (fun _ => none)))))), (w.2, .inl (T, capC c / 2, .inr (.inr (.inr (.inr (fun _ => none))))))]) (ty := .object "SliceHeap$Memory") rfl (by decide +kernel) rfl rfl (Nat.le_of_ble_eq_true rfl) (rfl) ?_
      refine gg_ws (ws' := cW ((((h, r), k), (q, w.1)), (((w.2, J), T), (capC c / 2, capC c))) ((((g, fun _ => 0), (0, 0)), ((0, 0), fun _ => 0)), (((fun _ => 0, fun _ => 0), (fun _ => false, fun _ _ => 0)), ((0, 0), fun _ => none)))) (by unfold cW; rw [rW_zero]; rfl) ?_
      exact gg_vret X dX2_init_71 hr hk (((((h, r), k), (q, w.1)), (((w.2, J), T), (capC c / 2, capC c))), ((((g, fun _ => 0), (0, 0)), ((0, 0), fun _ => 0)), (((fun _ => 0, fun _ => 0), (fun _ => false, fun _ _ => 0)), ((0, 0), fun _ => none)))) (pNew.of hC hg) rfl (Nat.le_of_ble_eq_true rfl) (Nat.le_of_ble_eq_true rfl)
set_option maxHeartbeats 4000000 in
set_option maxRecDepth 100000 in
theorem k_modelInit (l : Launch) (D : va_G) (B I Z : ClassId) (h : Nat) (c : Int32) : mG l yX3_init wX3_init ({ frames := 1, cells := 4, slots := 21960, locals := 30 }) D vwCl [(B, .byte), (I, .int), (Z, .boolean)] [.ref h, .int c] [(h, .inr (3, [.int 0, .null, .null, .int 0, .int 0, .null, .null, .int 0]))] (qV D vwCl (fun (w : DF × DS) => dNew w.1 w.2 h B I Z (capC c)) (fun w => dW w.1 w.2)) := by
  refine gg_met (cc := cX3_init) (nL := 2) (ret := none) (lv := [(0, .ref h), (1, .int c)]) (by decide) rfl rfl (Nat.le_of_ble_eq_true rfl) ?_
  intro p_ e_ s_ m_ bl_ me_ cc_ A_ X hr hk hnm
  have hC := capC_ok c
  refine gg_aload_n X dX3_init_0 rfl 0 rfl ?_
  refine gg_objInit X dX3_init_1 (am 142 rfl) (am 12 rfl) (am 13 rfl) (Nat.le_of_ble_eq_true rfl) (Nat.le_of_ble_eq_true rfl) ?_
  refine gg_aload_n X dX3_init_4 rfl 0 rfl ?_
  refine gg_sipush X dX3_init_5 (v := nI 10460) (by decide) ?_
  refine gg_newa X dX3_init_8 (ty := .byte) rfl (fun _ h => by cases h) (am 159 rfl) 0 rfl 10460 (a0 := (10460, .inl (fun _ => 0))) (fun _ => rfl) rfl (by decide) (by decide) (Nat.le_of_ble_eq_true rfl) (Nat.le_of_ble_eq_true rfl) (fun k => ?_)
  refine gg_putF X dX3_init_10 imX3 tyX3 tyX3_ok nmX3 0 rfl rfl 1 (by decide) (am 144 rfl) hnm rfl (ws' := [(h, .inr (3, [.int 0, .ref k, .null, .int 0, .int 0, .null, .null, .int 0])), (k, .inl (B, 10460, .inl (fun _ => 0)))]) (ty := .array .byte) rfl (by decide +kernel) rfl rfl (Nat.le_of_ble_eq_true rfl) (rfl) ?_
  refine gg_aload_n X dX3_init_13 rfl 0 rfl ?_
  refine gg_sipush X dX3_init_14 (v := nI 10460) (by decide) ?_
  refine gg_newa X dX3_init_17 (ty := .int) rfl (fun _ h => by cases h) (am 160 rfl) 1 rfl 10460 (a0 := (10460, .inl (fun _ => 0))) (fun _ => rfl) rfl (by decide) (by decide) (Nat.le_of_ble_eq_true rfl) (Nat.le_of_ble_eq_true rfl) (fun v => ?_)
  refine gg_putF X dX3_init_19 imX3 tyX3 tyX3_ok nmX3 0 rfl rfl 2 (by decide) (am 145 rfl) hnm rfl (ws' := [(h, .inr (3, [.int 0, .ref k, .ref v, .int 0, .int 0, .null, .null, .int 0])), (k, .inl (B, 10460, .inl (fun _ => 0))), (v, .inl (I, 10460, .inl (fun _ => 0)))]) (ty := .array .int) rfl (by decide +kernel) rfl rfl (Nat.le_of_ble_eq_true rfl) (rfl) ?_
  refine gg_aload_n X dX3_init_22 rfl 0 rfl ?_
  refine gg_sipush X dX3_init_23 (v := nI 520) (by decide) ?_
  refine gg_newa X dX3_init_26 (ty := .int) rfl (fun _ h => by cases h) (am 160 rfl) 1 rfl 520 (a0 := (520, .inl (fun _ => 0))) (fun _ => rfl) rfl (by decide) (by decide) (Nat.le_of_ble_eq_true rfl) (Nat.le_of_ble_eq_true rfl) (fun z => ?_)
  refine gg_putF X dX3_init_28 imX3 tyX3 tyX3_ok nmX3 0 rfl rfl 5 (by decide) (am 148 rfl) hnm rfl (ws' := [(h, .inr (3, [.int 0, .ref k, .ref v, .int 0, .int 0, .ref z, .null, .int 0])), (k, .inl (B, 10460, .inl (fun _ => 0))), (v, .inl (I, 10460, .inl (fun _ => 0))), (z, .inl (I, 520, .inl (fun _ => 0)))]) (ty := .array .int) rfl (by decide +kernel) rfl rfl (Nat.le_of_ble_eq_true rfl) (rfl) ?_
  refine gg_aload_n X dX3_init_31 rfl 0 rfl ?_
  refine gg_sipush X dX3_init_32 (v := nI 520) (by decide) ?_
  refine gg_newa X dX3_init_35 (ty := .boolean) rfl (fun _ h => by cases h) (am 161 rfl) 2 rfl 520 (a0 := (520, .inl (fun _ => 0))) (fun _ => rfl) rfl (by decide) (by decide) (Nat.le_of_ble_eq_true rfl) (Nat.le_of_ble_eq_true rfl) (fun r => ?_)
  refine gg_putF X dX3_init_37 imX3 tyX3 tyX3_ok nmX3 0 rfl rfl 6 (by decide) (am 149 rfl) hnm rfl (ws' := [(h, .inr (3, [.int 0, .ref k, .ref v, .int 0, .int 0, .ref z, .ref r, .int 0])), (k, .inl (B, 10460, .inl (fun _ => 0))), (v, .inl (I, 10460, .inl (fun _ => 0))), (z, .inl (I, 520, .inl (fun _ => 0))), (r, .inl (Z, 520, .inl (fun _ => 0)))]) (ty := .array .boolean) rfl (by decide +kernel) rfl rfl (Nat.le_of_ble_eq_true rfl) (rfl) ?_
  refine gg_aload_n X dX3_init_40 rfl 0 rfl ?_
  refine gg_iload_n X dX3_init_41 rfl 1 rfl ?_
  refine gg_bipush X dX3_init_42 (v := nI 20) (by decide) ?_
  refine gg_icmp_lt (tgt := 58) X dX3_init_44 (by decide) (fun c_44 => ?_) (fun c_44 => ?_)
  · have eC : capC c = 300 := capC_lo c_44
    refine gg_sipush X dX3_init_58 (v := nI 300) (by decide) ?_
    refine gg_st (st' := [.int (nI (capC c)), .ref h]) (by rw [eC]) ?_
    refine gg_putF X dX3_init_61 imX3 tyX3 tyX3_ok nmX3 0 rfl rfl 0 (by decide) (am 143 rfl) hnm rfl (ws' := [(h, .inr (3, [.int (nI (capC c)), .ref k, .ref v, .int 0, .int 0, .ref z, .ref r, .int 0])), (k, .inl (B, 10460, .inl (fun _ => 0))), (v, .inl (I, 10460, .inl (fun _ => 0))), (z, .inl (I, 520, .inl (fun _ => 0))), (r, .inl (Z, 520, .inl (fun _ => 0)))]) (ty := .int) rfl (by decide +kernel) rfl rfl (Nat.le_of_ble_eq_true rfl) (rfl) ?_
    refine gg_ws (ws' := dW ((((h, k), v), (z, r)), ((B, I), (Z, capC c))) (((fun _ => 0, fun _ => 0), (0, 0)), ((0, fun _ => 0), fun _ => false))) rfl ?_
    exact gg_vret X dX3_init_64 hr hk (((((h, k), v), (z, r)), ((B, I), (Z, capC c))), (((fun _ => 0, fun _ => 0), (0, 0)), ((0, fun _ => 0), fun _ => false))) (dNew.of) rfl (Nat.le_of_ble_eq_true rfl) (Nat.le_of_ble_eq_true rfl)
  · refine gg_iload_n X dX3_init_47 rfl 1 rfl ?_
    refine gg_sipush X dX3_init_48 (v := nI 3000) (by decide) ?_
    refine gg_icmp_gt (tgt := 58) X dX3_init_51 (by decide) (fun c_51 => ?_) (fun c_51 => ?_)
    · have eC : capC c = 300 := capC_hi c_51
      refine gg_sipush X dX3_init_58 (v := nI 300) (by decide) ?_
      refine gg_st (st' := [.int (nI (capC c)), .ref h]) (by rw [eC]) ?_
      refine gg_putF X dX3_init_61 imX3 tyX3 tyX3_ok nmX3 0 rfl rfl 0 (by decide) (am 143 rfl) hnm rfl (ws' := [(h, .inr (3, [.int (nI (capC c)), .ref k, .ref v, .int 0, .int 0, .ref z, .ref r, .int 0])), (k, .inl (B, 10460, .inl (fun _ => 0))), (v, .inl (I, 10460, .inl (fun _ => 0))), (z, .inl (I, 520, .inl (fun _ => 0))), (r, .inl (Z, 520, .inl (fun _ => 0)))]) (ty := .int) rfl (by decide +kernel) rfl rfl (Nat.le_of_ble_eq_true rfl) (rfl) ?_
      refine gg_ws (ws' := dW ((((h, k), v), (z, r)), ((B, I), (Z, capC c))) (((fun _ => 0, fun _ => 0), (0, 0)), ((0, fun _ => 0), fun _ => false))) rfl ?_
      exact gg_vret X dX3_init_64 hr hk (((((h, k), v), (z, r)), ((B, I), (Z, capC c))), (((fun _ => 0, fun _ => 0), (0, 0)), ((0, fun _ => 0), fun _ => false))) (dNew.of) rfl (Nat.le_of_ble_eq_true rfl) (Nat.le_of_ble_eq_true rfl)
    · obtain ⟨zz, hz, ez⟩ := capC_in c_44 c_51
      refine gg_iload_n X dX3_init_54 rfl 1 rfl ?_
      refine gg_goto (tgt := 61) X dX3_init_55 (by decide) ?_
      refine gg_st (st' := [.int (nI (capC c)), .ref h]) (by rw [← ez, ← hz]) ?_
      refine gg_putF X dX3_init_61 imX3 tyX3 tyX3_ok nmX3 0 rfl rfl 0 (by decide) (am 143 rfl) hnm rfl (ws' := [(h, .inr (3, [.int (nI (capC c)), .ref k, .ref v, .int 0, .int 0, .ref z, .ref r, .int 0])), (k, .inl (B, 10460, .inl (fun _ => 0))), (v, .inl (I, 10460, .inl (fun _ => 0))), (z, .inl (I, 520, .inl (fun _ => 0))), (r, .inl (Z, 520, .inl (fun _ => 0)))]) (ty := .int) rfl (by decide +kernel) rfl rfl (Nat.le_of_ble_eq_true rfl) (rfl) ?_
      refine gg_ws (ws' := dW ((((h, k), v), (z, r)), ((B, I), (Z, capC c))) (((fun _ => 0, fun _ => 0), (0, 0)), ((0, fun _ => 0), fun _ => false))) rfl ?_
      exact gg_vret X dX3_init_64 hr hk (((((h, k), v), (z, r)), ((B, I), (Z, capC c))), (((fun _ => 0, fun _ => 0), (0, 0)), ((0, fun _ => 0), fun _ => false))) (dNew.of) rfl (Nat.le_of_ble_eq_true rfl) (Nat.le_of_ble_eq_true rfl)
