set_option maxHeartbeats 4000000 in
set_option maxRecDepth 100000 in
theorem k_walk (l : Launch) (D : va_G) (F : CF) (u : CS) (hc : cOk F u) : mG l yX2_walk wX2_walk ({ frames := 3, cells := 0, slots := 0, locals := 69 }) D vwCl (cT F) [.ref (kH F)] (cW F u) (qV D vwCl (fun (w : CS) => Wd u w) (cW F)) := by
  refine gg_met (cc := cX2_walk) (nL := 1) (ret := none) (lv := [(0, .ref (kH F))]) (by decide) rfl rfl (Nat.le_of_ble_eq_true rfl) ?_
  intro p_ e_ s_ m_ bl_ me_ cc_ A_ X hr hk hnm
  refine gg_D (fun hD => ?_)
  have hinj := th_inj hD
  refine gg_aload_n X dX2_walk_0 rfl 0 rfl ?_
  refine gg_get X dX2_walk_1 imX2 0 rfl rfl 3 (by decide) (am 36 rfl) rfl ?_
  refine gc_v X (gr_VN (q0 := 3) (host := "SliceHeap") X dX2_walk_4 X.2.2.2.2.2.1 (k_forget l D F u hc) ⟨va_cnB 0 X.2.2.2.2.1 (gd0 (al 60 rfl)) rfl rfl rfl (X.2.2.2.2.2.2.2.1 _ (nw 3 rfl)) (X.2.2.2.2.1 _ (am 3 rfl)) (by decide +kernel) ⟨Nat.le_of_ble_eq_true rfl, Nat.le_of_ble_eq_true rfl⟩, (X.2.2.2.2.1 _ (am 59 rfl)), (X.2.2.2.2.1 _ (am 233 rfl))⟩ rfl rfl rfl rfl rfl (Nat.le_of_ble_eq_true rfl) ⟨Nat.le_of_ble_eq_true rfl, Nat.le_of_ble_eq_true rfl⟩) (fun u0 h0 => ?_)
  have s0 := h0.1
  have hc0 : cOk F u0 := hc.sm s0
  refine gg_aload_n X dX2_walk_7 rfl 0 rfl ?_
  refine gg_get X dX2_walk_8 imX2 0 rfl rfl 3 (by decide) (am 36 rfl) rfl ?_
  refine gg_aload_n X dX2_walk_11 rfl 0 rfl ?_
  refine gg_get X dX2_walk_12 imX2 0 rfl rfl 1 (by decide) (am 34 rfl) rfl ?_
  refine gg_bipush X dX2_walk_15 (v := nI 10) (by decide) ?_
  refine gc_v X (gr_VN (q0 := 3) (host := "SliceHeap") X dX2_walk_17 X.2.2.2.2.2.1 (k_reachAll l D F u0 hc0 h0.wk (kR F) 1 10 10 (rG u0) (Nat.le_refl _) (by decide) (fun w hs => by rw [← hs.1]; rfl)) ⟨va_cnB 2 X.2.2.2.2.1 (gd0 (al 62 rfl)) rfl rfl rfl (X.2.2.2.2.2.2.2.1 _ (nw 4 rfl)) (X.2.2.2.2.1 _ (am 3 rfl)) (by decide +kernel) ⟨Nat.le_of_ble_eq_true rfl, Nat.le_of_ble_eq_true rfl⟩, (X.2.2.2.2.1 _ (am 61 rfl)), (X.2.2.2.2.1 _ (am 234 rfl))⟩ rfl rfl rfl rfl rfl (Nat.le_of_ble_eq_true rfl) ⟨Nat.le_of_ble_eq_true rfl, Nat.le_of_ble_eq_true rfl⟩) (fun u1 h1 => ?_)
  have s1 := s0.tr h1.1
  have hc1 : cOk F u1 := hc.sm s1
  refine gg_aload_n X dX2_walk_20 rfl 0 rfl ?_
  refine gg_get X dX2_walk_21 imX2 0 rfl rfl 3 (by decide) (am 36 rfl) rfl ?_
  refine gg_aload_n X dX2_walk_24 rfl 0 rfl ?_
  refine gg_get X dX2_walk_25 imX2 0 rfl rfl 2 (by decide) (am 35 rfl) rfl ?_
  refine gg_aload_n X dX2_walk_28 rfl 0 rfl ?_
  refine gg_get X dX2_walk_29 imX2 0 rfl rfl 4 (by decide) (am 37 rfl) rfl ?_
  refine gc_v X (gr_VN (q0 := 3) (host := "SliceHeap") X dX2_walk_32 X.2.2.2.2.2.1 (k_reachAll l D F u1 hc1 h1.2.1 (kS F) 2 50 (sT u1) (sK u1) hc1.2.2.2.2.1 (by decide) (fun w hs => by rw [← hs.2.1]; rfl)) ⟨va_cnB 2 X.2.2.2.2.1 (gd0 (al 62 rfl)) rfl rfl rfl (X.2.2.2.2.2.2.2.1 _ (nw 4 rfl)) (X.2.2.2.2.1 _ (am 3 rfl)) (by decide +kernel) ⟨Nat.le_of_ble_eq_true rfl, Nat.le_of_ble_eq_true rfl⟩, (X.2.2.2.2.1 _ (am 61 rfl)), (X.2.2.2.2.1 _ (am 234 rfl))⟩ rfl rfl rfl rfl rfl (Nat.le_of_ble_eq_true rfl) ⟨Nat.le_of_ble_eq_true rfl, Nat.le_of_ble_eq_true rfl⟩) (fun u2 h2 => ?_)
  have s2 := s1.tr h2.1
  have hc2 : cOk F u2 := hc.sm s2
  refine gg_aload_n X dX2_walk_35 rfl 0 rfl ?_
  refine gg_get X dX2_walk_36 imX2 0 rfl rfl 3 (by decide) (am 36 rfl) rfl ?_
  refine gc_v X (gr_VN (q0 := 3) (host := "SliceHeap") X dX2_walk_39 X.2.2.2.2.2.1 (k_follow l D F u2 hc2 h2.2.1) ⟨va_cnB 0 X.2.2.2.2.1 (gd0 (al 71 rfl)) rfl rfl rfl (X.2.2.2.2.2.2.2.1 _ (nw 5 rfl)) (X.2.2.2.2.1 _ (am 3 rfl)) (by decide +kernel) ⟨Nat.le_of_ble_eq_true rfl, Nat.le_of_ble_eq_true rfl⟩, (X.2.2.2.2.1 _ (am 70 rfl)), (X.2.2.2.2.1 _ (am 237 rfl))⟩ rfl rfl rfl rfl rfl (Nat.le_of_ble_eq_true rfl) ⟨Nat.le_of_ble_eq_true rfl, Nat.le_of_ble_eq_true rfl⟩) (fun u3 h3 => ?_)
  exact gg_vret X dX2_walk_42 hr hk u3 (Wd.of s0 h0.2.2.2 (by rw [← s0.1]; exact h1) (by rw [← s1.2.1, ← s1.2.2.1]; exact h2) h3 hinj) rfl (Nat.le_of_ble_eq_true rfl) (Nat.le_of_ble_eq_true rfl)
set_option maxHeartbeats 4000000 in
set_option maxRecDepth 100000 in
theorem k_room (l : Launch) (D : va_G) (F : CF) (u : CS) (hc : cOk F u) (n : Nat) (hn : n ≤ 22) : mG l yX2_hasRoomFor wX2_hasRoomFor ({ frames := 4, cells := 0, slots := 0, locals := 89 }) D vwCl (cT F) [.ref (kH F), .int (nI n)] (cW F u) (qI D vwCl (fun (x : Int32) (w : CS) => Wd u w ∧ ((rL w + n ≤ kC F ∧ x = 1) ∨ (¬ rL w + n ≤ kC F ∧ x = 0))) (cW F)) := by
  refine gg_met (cc := cX2_hasRoomFor) (nL := 2) (ret := (some .boolean)) (lv := [(0, .ref (kH F)), (1, .int (nI n))]) (by decide) rfl rfl (Nat.le_of_ble_eq_true rfl) ?_
  intro p_ e_ s_ m_ bl_ me_ cc_ A_ X hr hk hnm
  refine gg_aload_n X dX2_hasRoomFor_0 rfl 0 rfl ?_
  refine gc_v X (gr_V (q0 := 0) X dX2_hasRoomFor_1 X.2.2.2.2.2.1 (k_walk l D F u hc) (cwV 0 X.2.2.2.2.1 (gdV (al 56 rfl) (al 57 rfl) (al 232 rfl) (al 1 rfl) (al 58 rfl)) rfl rfl rfl (by decide +kernel) ⟨Nat.le_of_ble_eq_true rfl, Nat.le_of_ble_eq_true rfl⟩) rfl rfl rfl rfl rfl (Nat.le_of_ble_eq_true rfl) ⟨Nat.le_of_ble_eq_true rfl, Nat.le_of_ble_eq_true rfl⟩) (fun v hv => ?_)
  have hL : rL v ≤ 22 * nU u := by
    rw [hv.2.2.1]
    exact sm_top (fun i hi => by have := hc.2.2.2.2.2 i hi; omega)
  obtain ⟨c1, c2, c3, c4, c5, c6⟩ := id hc
  refine gg_aload_n X dX2_hasRoomFor_4 rfl 0 rfl ?_
  refine gg_get X dX2_hasRoomFor_5 imX2 0 rfl rfl 3 (by decide) (am 36 rfl) rfl ?_
  refine gg_getN (host := "SliceHeap") X dX2_hasRoomFor_8 imX0 3 rfl rfl 3 (by decide) (X.2.2.2.2.2.2.2.1 _ (nw 2 rfl)) rfl ?_
  refine gg_iload_n X dX2_hasRoomFor_11 rfl 1 rfl ?_
  refine gg_iadd X dX2_hasRoomFor_12 (nI_add _ _) ?_
  refine gg_aload_n X dX2_hasRoomFor_13 rfl 0 rfl ?_
  refine gg_get X dX2_hasRoomFor_14 imX2 0 rfl rfl 0 (by decide) (am 33 rfl) rfl ?_
  refine gg_icmp_gt (tgt := 24) X dX2_hasRoomFor_17 (by decide) (fun c_17 => ?_) (fun c_17 => ?_)
  · refine gg_iconst X dX2_hasRoomFor_24 (v := 0) (by decide) ?_
    exact gg_zret X dX2_hasRoomFor_25 hr hk rfl v (⟨hv, Or.inr ⟨fun h => nI_nlt h (by omega) c_17, rfl⟩⟩) rfl (Nat.le_of_ble_eq_true rfl) (Nat.le_of_ble_eq_true rfl)
  · refine gg_iconst X dX2_hasRoomFor_20 (v := 1) (by decide) ?_
    refine gg_goto (tgt := 25) X dX2_hasRoomFor_21 (by decide) ?_
    exact gg_zret X dX2_hasRoomFor_25 hr hk rfl v (⟨hv, Or.inl ⟨Nat.not_lt.mp (fun h => c_17 (nI_lt h (by omega))), rfl⟩⟩) rfl (Nat.le_of_ble_eq_true rfl) (Nat.le_of_ble_eq_true rfl)
set_option maxHeartbeats 4000000 in
set_option maxRecDepth 100000 in
theorem k_full (l : Launch) (D : va_G) (F : CF) (u : CS) : mG l yX2_tellFull wX2_tellFull ({ frames := 0, cells := 0, slots := 0, locals := 0 }) D vwCl (cT F) [.ref (kH F)] (cW F u) (qI D vwCl (fun (x : Int32) (w : CS) => x = 0 ∧ w = uF u (fU u + 1)) (cW F)) := by
  refine gg_met (cc := cX2_tellFull) (nL := 1) (ret := (some .int)) (lv := [(0, .ref (kH F))]) (by decide) rfl rfl (Nat.le_of_ble_eq_true rfl) ?_
  intro p_ e_ s_ m_ bl_ me_ cc_ A_ X hr hk hnm
  refine gg_aload_n X dX2_tellFull_0 rfl 0 rfl ?_
  refine gg_dup X dX2_tellFull_1 rfl ?_
  refine gg_get X dX2_tellFull_2 imX2 0 rfl rfl 6 (by decide) (am 39 rfl) rfl ?_
  refine gg_iconst X dX2_tellFull_5 (v := 1) (by decide) ?_
  refine gg_iadd X dX2_tellFull_6 (nI_1 _) ?_
  refine gg_put X dX2_tellFull_7 imX2 tyX2 tyX2_ok nmX2 0 rfl rfl 6 (by decide) (am 39 rfl) (ws' := cW F (uF u (fU u + 1))) (ty := .int) rfl (by decide +kernel) rfl rfl (Nat.le_of_ble_eq_true rfl) (rfl) ?_
  refine gg_iconst X dX2_tellFull_10 (v := 0) (by decide) ?_
  exact gg_iret X dX2_tellFull_11 hr hk (uF u (fU u + 1)) (⟨rfl, rfl⟩) rfl (Nat.le_of_ble_eq_true rfl) (Nat.le_of_ble_eq_true rfl)
set_option maxHeartbeats 4000000 in
set_option maxRecDepth 100000 in
theorem k_thingIn (l : Launch) (D : va_G) (F : CF) (u : CS) (hc : cOk F u) (r : Int32) : mG l yX2_thingIn wX2_thingIn ({ frames := 1, cells := 0, slots := 0, locals := 24 }) D vwCl (cT F) [.ref (kH F), .int r] (cW F u) (qQ D vwCl (fun (x : Option Nat) (w : CS) => w = u ∧ pTI u r x) (cW F)) := by
  refine gg_met (cc := cX2_thingIn) (nL := 2) (ret := (some (.object "SliceHeap$Thing"))) (lv := [(0, .ref (kH F)), (1, .int r)]) (by decide) rfl rfl (Nat.le_of_ble_eq_true rfl) ?_
  intro p_ e_ s_ m_ bl_ me_ cc_ A_ X hr hk hnm
  refine gg_iload_n X dX2_thingIn_0 rfl 1 rfl ?_
  refine gc_i X (gr_S X dX2_thingIn_1 X.2.2.2.2.2.1 (k_isR l D (cT F) (cW F u) r) (cwS 1 X.2.2.2.2.1 (gdS (al 50 rfl) (al 51 rfl) (al 1 rfl) (al 52 rfl)) rfl rfl rfl (by decide +kernel) ⟨Nat.le_of_ble_eq_true rfl, Nat.le_of_ble_eq_true rfl⟩) rfl rfl (Nat.le_of_ble_eq_true rfl) ⟨Nat.le_of_ble_eq_true rfl, Nat.le_of_ble_eq_true rfl⟩) (fun r_1 w_1 h_1 => ?_)
  refine gg_if_eq (tgt := 23) X dX2_thingIn_4 (by decide) (fun c_4 => ?_) (fun c_4 => ?_)
  · refine gg_null X dX2_thingIn_23 ?_
    exact gg_aret (r := none) X dX2_thingIn_24 hr hk u (⟨rfl, pTI.no (b01 h_1 c_4)⟩) rfl (Nat.le_of_ble_eq_true rfl) (Nat.le_of_ble_eq_true rfl)
  · obtain ⟨j, hj, rfl⟩ := b01' h_1 c_4
    refine gg_aload_n X dX2_thingIn_7 rfl 0 rfl ?_
    refine gg_get X dX2_thingIn_8 imX2 0 rfl rfl 3 (by decide) (am 36 rfl) rfl ?_
    refine gg_aload_n X dX2_thingIn_11 rfl 0 rfl ?_
    refine gg_get X dX2_thingIn_12 imX2 0 rfl rfl 1 (by decide) (am 34 rfl) rfl ?_
    refine gg_iload_n X dX2_thingIn_15 rfl 1 rfl ?_
    refine gg_lald X dX2_thingIn_16 1 0 rfl rfl j rfl hj (by decide) ?_
    refine gc_q X (gr_VN (q0 := 3) (host := "SliceHeap") X dX2_thingIn_17 X.2.2.2.2.2.1 (k_thingOf l D F u hc (rG u j)) ⟨va_cnB 1 X.2.2.2.2.1 (gd0 (al 65 rfl)) rfl rfl rfl (X.2.2.2.2.2.2.2.1 _ (nw 14 rfl)) (X.2.2.2.2.1 _ (am 3 rfl)) (by decide +kernel) ⟨Nat.le_of_ble_eq_true rfl, Nat.le_of_ble_eq_true rfl⟩, (X.2.2.2.2.1 _ (am 64 rfl)), (X.2.2.2.2.1 _ (am 235 rfl))⟩ rfl rfl rfl rfl rfl (Nat.le_of_ble_eq_true rfl) ⟨Nat.le_of_ble_eq_true rfl, Nat.le_of_ble_eq_true rfl⟩) (fun r_17 w_17 h_17 => ?_)
    obtain ⟨ew, h_17⟩ := h_17
    rw [ew]
    refine gg_goto (tgt := 24) X dX2_thingIn_20 (by decide) ?_
    exact gg_aret X dX2_thingIn_24 hr hk u (⟨rfl, pTI.of hj h_17⟩) rfl (Nat.le_of_ble_eq_true rfl) (Nat.le_of_ble_eq_true rfl)
set_option maxHeartbeats 4000000 in
set_option maxRecDepth 100000 in
theorem k_thingInit (l : Launch) (D : va_G) (F : CF) (q : Nat) : mG l yX1_init wX1_init ({ frames := 1, cells := 1, slots := 20, locals := 30 }) D vwCl (cT F) [.ref q] [(q, .inr (1, [.null, .int 0, .int 0]))] (qV D vwCl (fun (_ : Nat) => True) (fun q2 => [(q, .inr (1, [.ref q2, .int 0, .int 0])), (q2, .inl (kJ F, 20, .inr (.inl (fun _ => 0))))])) := by
  refine gg_met (cc := cX1_init) (nL := 1) (ret := none) (lv := [(0, .ref q)]) (by decide) rfl rfl (Nat.le_of_ble_eq_true rfl) ?_
  intro p_ e_ s_ m_ bl_ me_ cc_ A_ X hr hk hnm
  refine gg_aload_n X dX1_init_0 rfl 0 rfl ?_
  refine gg_objInit X dX1_init_1 (am 82 rfl) (am 12 rfl) (am 13 rfl) (Nat.le_of_ble_eq_true rfl) (Nat.le_of_ble_eq_true rfl) ?_
  refine gg_aload_n X dX1_init_4 rfl 0 rfl ?_
  refine gg_bipush X dX1_init_5 (v := nI 20) (by decide) ?_
  refine gg_newa X dX1_init_7 (ty := .long) rfl (fun _ h => by cases h) (am 32 rfl) 0 rfl 20 (a0 := (20, .inr (.inl (fun _ => 0)))) (fun _ => rfl) rfl (by decide) (by decide) (Nat.le_of_ble_eq_true rfl) (Nat.le_of_ble_eq_true rfl) (fun q2 => ?_)
  refine gg_putF X dX1_init_9 imX1 tyX1 tyX1_ok nmX1 0 rfl rfl 0 (by decide) (am 83 rfl) hnm rfl (ws' := [(q, .inr (1, [.ref q2, .int 0, .int 0])), (q2, .inl (kJ F, 20, .inr (.inl (fun _ => 0))))]) (ty := .array .long) rfl (by decide +kernel) rfl rfl (Nat.le_of_ble_eq_true rfl) (rfl) ?_
  exact gg_vret X dX1_init_12 hr hk q2 (trivial) rfl (Nat.le_of_ble_eq_true rfl) (Nat.le_of_ble_eq_true rfl)
set_option maxHeartbeats 4000000 in
set_option maxRecDepth 100000 in
theorem k_place (l : Launch) (D : va_G) (F : CF) (u : CS) (hc : cOk F u) (z : Nat) (hz : z ≤ 20) (x : Int64) (hroom : ∀ i, pFst F u i → i < kN F) : mG l yX0_place wX0_place ({ frames := 2, cells := 2, slots := 23, locals := 50 }) D vwCl (cT F) [.ref (kM F), .int (nI z), .long x] (cW F u) (qL D vwCl (fun (r : Int64) (w : CS) => ∃ i, r = oB i ∧ pPl F u z x i w) (cW F)) := by
  refine gg_met (cc := cX0_place) (nL := 5) (ret := (some .long)) (lv := [(0, .ref (kM F)), (1, .int (nI z)), (2, .long x)]) (by decide) rfl rfl (Nat.le_of_ble_eq_true rfl) ?_
  intro p_ e_ s_ m_ bl_ me_ cc_ A_ X hr hk hnm
  have hN := hc.N
  have hn := hc.n
  have h4 := hc.2.2.2.1
  refine gg_aload_n X dX0_place_0 rfl 0 rfl ?_
  refine gc_i X (gr_V (q0 := 3) X dX0_place_1 X.2.2.2.2.2.1 (k_first l D F u hc) (cwV 0 X.2.2.2.2.1 (gdV (al 75 rfl) (al 76 rfl) (al 239 rfl) (al 3 rfl) (al 77 rfl)) rfl rfl rfl (by decide +kernel) ⟨Nat.le_of_ble_eq_true rfl, Nat.le_of_ble_eq_true rfl⟩) rfl rfl rfl rfl rfl (Nat.le_of_ble_eq_true rfl) ⟨Nat.le_of_ble_eq_true rfl, Nat.le_of_ble_eq_true rfl⟩) (fun r_1 w_1 h_1 => ?_)
  obtain ⟨ew, i, er, hf⟩ := h_1
  rw [ew, er]
  have hiN := hroom i hf
  refine gg_istore X dX0_place_4 (by decide) rfl ?_
  refine gg_iload X dX0_place_6 0 rfl ?_
  refine gg_aload_n X dX0_place_8 rfl 1 rfl ?_
  refine gg_get X dX0_place_9 imX0 3 rfl rfl 0 (by decide) (am 24 rfl) rfl ?_
  refine gg_alen X dX0_place_12 4 1 rfl rfl (v := nI (kN F)) rfl ?_
  refine gg_icmp_lt (tgt := 20) X dX0_place_13 (by decide) (fun c_13 => ?_) (fun c_13 => ?_)
  · refine gg_aload_n X dX0_place_20 rfl 1 rfl ?_
    refine gg_get X dX0_place_21 imX0 3 rfl rfl 0 (by decide) (am 24 rfl) rfl ?_
    refine gg_iload X dX0_place_24 0 rfl ?_
    refine gg_aldq X dX0_place_26 4 1 rfl rfl i rfl hiN hN (r := rW (nU u) (tH u) i) rfl ?_
    refine gg_ifnonnull (tgt := 44) X dX0_place_27 (by decide) (fun a_27 c_27 => ?_) (fun c_27 => ?_)
    · obtain ⟨hi, -⟩ := rW_some c_27
      refine gg_aload_n X dX0_place_44 rfl 1 rfl ?_
      refine gg_get X dX0_place_45 imX0 3 rfl rfl 0 (by decide) (am 24 rfl) rfl ?_
      refine gg_iload X dX0_place_48 0 rfl ?_
      refine gg_aldq X dX0_place_50 4 1 rfl rfl i rfl hiN hN (r := some (tH u i)) (rW_lt hi) ?_
      refine gg_iload_n X dX0_place_51 rfl 2 rfl ?_
      refine gg_lload_n X dX0_place_52 rfl 3 rfl ?_
      refine gc_v X (gr_VN (q0 := (2 * i + 6)) (host := "SliceHeap") X dX0_place_53 X.2.2.2.2.2.1 (k_fill l D F u hc i hi z hz x) ⟨va_cnB 2 X.2.2.2.2.1 (gd0 (al 89 rfl)) rfl rfl rfl (X.2.2.2.2.2.2.2.1 _ (nw 13 rfl)) (X.2.2.2.2.1 _ (am 5 rfl)) (by decide +kernel) ⟨Nat.le_of_ble_eq_true rfl, Nat.le_of_ble_eq_true rfl⟩, (X.2.2.2.2.1 _ (am 88 rfl)), (X.2.2.2.2.1 _ (am 240 rfl))⟩ (cW_th F u hi) rfl rfl rfl rfl (Nat.le_of_ble_eq_true rfl) ⟨Nat.le_of_ble_eq_true rfl, Nat.le_of_ble_eq_true rfl⟩) (fun w_53 h_53 => ?_)
      refine gg_ldc2 X (v := 4294967297) (am 66 rfl) dX0_place_56 ?_
      refine gg_iload X dX0_place_59 0 rfl ?_
      refine gg_i2l X dX0_place_61 (v := lN i) (nI_l (by omega)) ?_
      refine gg_ladd X dX0_place_62 (oB_add _) ?_
      exact gg_lret X dX0_place_63 hr hk w_53 (⟨i, rfl, pPl.old hc hi (hf.2.2.2 hiN hi) h_53⟩) rfl (Nat.le_of_ble_eq_true rfl) (Nat.le_of_ble_eq_true rfl)
    · have hi := rW_none c_27
      have ei : i = nU u := by have := hf.2.1; omega
      subst ei
      refine gg_aload_n X dX0_place_30 rfl 1 rfl ?_
      refine gg_get X dX0_place_31 imX0 3 rfl rfl 0 (by decide) (am 24 rfl) rfl ?_
      refine gg_iload X dX0_place_34 0 rfl ?_
      refine gg_new (C := RX1) (T := TX1) (N' := 3) (ci := 1) X dX0_place_36 imX1 tyX1 tyX1_ok (am 23 rfl) (am 79 rfl) (am 5 rfl) rfl (fs := [.null, .int 0, .int 0]) (fun j hj => by rcases (show j = 0 ∨ j = 1 ∨ j = 2 by omega) with rfl | rfl | rfl <;> rfl) (Nat.le_of_ble_eq_true rfl) (Nat.le_of_ble_eq_true rfl) (fun q => ?_)
      refine gg_dup X dX0_place_39 rfl ?_
      refine gc_vR X (gr_IN (host := "SliceHeap") X dX0_place_40 X.2.2.2.2.2.1 (k_thingInit l D F q) ⟨va_cnB 0 X.2.2.2.2.1 (gd0 (al 81 rfl)) rfl rfl rfl (X.2.2.2.2.2.2.2.1 _ (nw 7 rfl)) (X.2.2.2.2.1 _ (am 5 rfl)) (by decide +kernel) ⟨Nat.le_of_ble_eq_true rfl, Nat.le_of_ble_eq_true rfl⟩, rfl, (X.2.2.2.2.1 _ (am 80 rfl))⟩ rfl rfl (Nat.le_of_ble_eq_true rfl) ⟨Nat.le_of_ble_eq_true rfl, Nat.le_of_ble_eq_true rfl⟩) (fun q2 h_40 => ?_)
      refine gg_astq X dX0_place_43 4 1 (2 * nU u + 6) 1 (cW_at4 F u _) rfl (cW_newat F u q q2) rfl (nU u) rfl (by omega) hN (ws' := cW F (uP u (nU u + 1) (va_up (tH u) (nU u) q) (va_up (aR u) (nU u) q2) (va_up (sZ u) (nU u) 0) (va_up (rC u) (nU u) false) (va_up (vS u) (nU u) (fun _ => 0)))) (cW_new F u q q2) ?_
      refine gg_aload_n X dX0_place_44 rfl 1 rfl ?_
      refine gg_get X dX0_place_45 imX0 3 rfl rfl 0 (by decide) (am 24 rfl) rfl ?_
      refine gg_iload X dX0_place_48 0 rfl ?_
      refine gg_aldq X dX0_place_50 4 1 rfl rfl (nU u) rfl hiN hN (r := some (va_up (tH u) (nU u) q (nU u))) (rW_lt (Nat.lt_succ_self _)) ?_
      refine gg_iload_n X dX0_place_51 rfl 2 rfl ?_
      refine gg_lload_n X dX0_place_52 rfl 3 rfl ?_
      refine gc_v X (gr_VN (q0 := (2 * nU u + 6)) (host := "SliceHeap") X dX0_place_53 X.2.2.2.2.2.1 (k_fill l D F (uP u (nU u + 1) (va_up (tH u) (nU u) q) (va_up (aR u) (nU u) q2) (va_up (sZ u) (nU u) 0) (va_up (rC u) (nU u) false) (va_up (vS u) (nU u) (fun _ => 0))) (hc.grow hiN) (nU u) (Nat.lt_succ_self _) z hz x) ⟨va_cnB 2 X.2.2.2.2.1 (gd0 (al 89 rfl)) rfl rfl rfl (X.2.2.2.2.2.2.2.1 _ (nw 13 rfl)) (X.2.2.2.2.1 _ (am 5 rfl)) (by decide +kernel) ⟨Nat.le_of_ble_eq_true rfl, Nat.le_of_ble_eq_true rfl⟩, (X.2.2.2.2.1 _ (am 88 rfl)), (X.2.2.2.2.1 _ (am 240 rfl))⟩ (cW_th F _ (Nat.lt_succ_self _)) rfl rfl rfl rfl (Nat.le_of_ble_eq_true rfl) ⟨Nat.le_of_ble_eq_true rfl, Nat.le_of_ble_eq_true rfl⟩) (fun w_53 h_53 => ?_)
      refine gg_ldc2 X (v := 4294967297) (am 66 rfl) dX0_place_56 ?_
      refine gg_iload X dX0_place_59 0 rfl ?_
      refine gg_i2l X dX0_place_61 (v := lN (nU u)) (nI_l (by omega)) ?_
      refine gg_ladd X dX0_place_62 (oB_add _) ?_
      exact gg_lret X dX0_place_63 hr hk w_53 (⟨nU u, rfl, pPl.new hiN h_53⟩) rfl (Nat.le_of_ble_eq_true rfl) (Nat.le_of_ble_eq_true rfl)
  · exact absurd ((nI_ltI (by omega) (by omega)).mpr hiN) c_13
