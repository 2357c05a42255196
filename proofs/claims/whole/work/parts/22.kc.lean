set_option maxHeartbeats 4000000 in
set_option maxRecDepth 100000 in
theorem k_number (l : Launch) (D : va_G) (F : CF) (u : CS) (r v : Int32) : mG l yX2_number wX2_number ({ frames := 1, cells := 0, slots := 0, locals := 20 }) D vwCl (cT F) [.ref (kH F), .int r, .int v] (cW F u) (qI D vwCl (fun (x : Int32) (w : CS) => cpNum u r v x w) (cW F)) := by
  refine gg_met (cc := cX2_number) (nL := 3) (ret := (some .boolean)) (lv := [(0, .ref (kH F)), (1, .int r), (2, .int v)]) (by decide) rfl rfl (Nat.le_of_ble_eq_true rfl) ?_
  intro p_ e_ s_ m_ bl_ me_ cc_ A_ X hr hk hnm
  refine gg_iload_n X dX2_number_0 rfl 1 rfl ?_
  refine gc_i X (gr_S X dX2_number_1 X.2.2.2.2.2.1 (k_isR l D (cT F) (cW F u) r) (cwS 1 X.2.2.2.2.1 (gdS (al 50 rfl) (al 51 rfl) (al 1 rfl) (al 52 rfl)) rfl rfl rfl (by decide +kernel) ⟨Nat.le_of_ble_eq_true rfl, Nat.le_of_ble_eq_true rfl⟩) rfl rfl (Nat.le_of_ble_eq_true rfl) ⟨Nat.le_of_ble_eq_true rfl, Nat.le_of_ble_eq_true rfl⟩) (fun r_1 w_1 h_1 => ?_)
  refine gg_if_ne (tgt := 9) X dX2_number_4 (by decide) (fun c_4 => ?_) (fun c_4 => ?_)
  · obtain ⟨j, hj, rfl⟩ := b01' h_1 c_4
    refine gg_aload_n X dX2_number_9 rfl 0 rfl ?_
    refine gg_get X dX2_number_10 imX2 0 rfl rfl 1 (by decide) (am 34 rfl) rfl ?_
    refine gg_iload_n X dX2_number_13 rfl 1 rfl ?_
    refine gg_iload_n X dX2_number_14 rfl 2 rfl ?_
    refine gg_i2l X dX2_number_15 rfl ?_
    refine gg_last X dX2_number_16 1 0 rfl rfl j rfl hj (by decide) (ws' := cW F (uR u (vp_updL (rG u) j v.toInt64))) rfl ?_
    refine gg_iconst X dX2_number_17 (v := 1) (by decide) ?_
    exact gg_zret X dX2_number_18 hr hk rfl (uR u (vp_updL (rG u) j v.toInt64)) (Or.inl ⟨j, hj, rfl, rfl, rfl⟩) rfl (Nat.le_of_ble_eq_true rfl) (Nat.le_of_ble_eq_true rfl)
  · refine gg_iconst X dX2_number_7 (v := 0) (by decide) ?_
    exact gg_zret X dX2_number_8 hr hk rfl u (Or.inr ⟨b01 h_1 c_4, rfl, rfl⟩) rfl (Nat.le_of_ble_eq_true rfl) (Nat.le_of_ble_eq_true rfl)
set_option maxHeartbeats 4000000 in
set_option maxRecDepth 100000 in
theorem k_copy (l : Launch) (D : va_G) (F : CF) (u : CS) (r s : Int32) : mG l yX2_copy wX2_copy ({ frames := 1, cells := 0, slots := 0, locals := 20 }) D vwCl (cT F) [.ref (kH F), .int r, .int s] (cW F u) (qI D vwCl (fun (x : Int32) (w : CS) => cpCopy u r s x w) (cW F)) := by
  refine gg_met (cc := cX2_copy) (nL := 3) (ret := (some .boolean)) (lv := [(0, .ref (kH F)), (1, .int r), (2, .int s)]) (by decide) rfl rfl (Nat.le_of_ble_eq_true rfl) ?_
  intro p_ e_ s_ m_ bl_ me_ cc_ A_ X hr hk hnm
  refine gg_iload_n X dX2_copy_0 rfl 1 rfl ?_
  refine gc_i X (gr_S X dX2_copy_1 X.2.2.2.2.2.1 (k_isR l D (cT F) (cW F u) r) (cwS 1 X.2.2.2.2.1 (gdS (al 50 rfl) (al 51 rfl) (al 1 rfl) (al 52 rfl)) rfl rfl rfl (by decide +kernel) ⟨Nat.le_of_ble_eq_true rfl, Nat.le_of_ble_eq_true rfl⟩) rfl rfl (Nat.le_of_ble_eq_true rfl) ⟨Nat.le_of_ble_eq_true rfl, Nat.le_of_ble_eq_true rfl⟩) (fun r_1 w_1 h_1 => ?_)
  refine gg_if_eq (tgt := 19) X dX2_copy_4 (by decide) (fun c_4 => ?_) (fun c_4 => ?_)
  · refine gg_iconst X dX2_copy_19 (v := 0) (by decide) ?_
    exact gg_zret X dX2_copy_20 hr hk rfl u (Or.inr ⟨Or.inl (b01 h_1 c_4), rfl, rfl⟩) rfl (Nat.le_of_ble_eq_true rfl) (Nat.le_of_ble_eq_true rfl)
  · obtain ⟨j, hj, rfl⟩ := b01' h_1 c_4
    refine gg_iload_n X dX2_copy_7 rfl 2 rfl ?_
    refine gg_iconst X dX2_copy_8 (v := (-1)) (by decide) ?_
    refine gg_icmp_eq (tgt := 21) X dX2_copy_9 (by decide) (fun c_9 => ?_) (fun c_9 => ?_)
    · refine gg_aload_n X dX2_copy_21 rfl 0 rfl ?_
      refine gg_get X dX2_copy_22 imX2 0 rfl rfl 1 (by decide) (am 34 rfl) rfl ?_
      refine gg_iload_n X dX2_copy_25 rfl 1 rfl ?_
      refine gg_iload_n X dX2_copy_26 rfl 2 rfl ?_
      refine gg_iconst X dX2_copy_27 (v := (-1)) (by decide) ?_
      refine gg_icmp_ne (tgt := 37) X dX2_copy_28 (by decide) (fun c_28 => ?_) (fun c_28 => ?_)
      · exact absurd c_9 c_28
      · refine gg_ldc2 X (v := 4294967296) (am 14 rfl) dX2_copy_31 ?_
        refine gg_goto (tgt := 43) X dX2_copy_34 (by decide) ?_
        refine gg_last X dX2_copy_43 1 0 rfl rfl j rfl hj (by decide) (ws' := cW F (uR u (vp_updL (rG u) j nO))) rfl ?_
        refine gg_iconst X dX2_copy_44 (v := 1) (by decide) ?_
        exact gg_zret X dX2_copy_45 hr hk rfl (uR u (vp_updL (rG u) j nO)) (Or.inl ⟨j, hj, rfl, rfl, Or.inl ⟨c_28, rfl⟩⟩) rfl (Nat.le_of_ble_eq_true rfl) (Nat.le_of_ble_eq_true rfl)
    · refine gg_iload_n X dX2_copy_12 rfl 2 rfl ?_
      refine gc_i X (gr_S X dX2_copy_13 X.2.2.2.2.2.1 (k_isR l D (cT F) (cW F u) s) (cwS 1 X.2.2.2.2.1 (gdS (al 50 rfl) (al 51 rfl) (al 1 rfl) (al 52 rfl)) rfl rfl rfl (by decide +kernel) ⟨Nat.le_of_ble_eq_true rfl, Nat.le_of_ble_eq_true rfl⟩) rfl rfl (Nat.le_of_ble_eq_true rfl) ⟨Nat.le_of_ble_eq_true rfl, Nat.le_of_ble_eq_true rfl⟩) (fun r_13 w_13 h_13 => ?_)
      refine gg_if_ne (tgt := 21) X dX2_copy_16 (by decide) (fun c_16 => ?_) (fun c_16 => ?_)
      · refine gg_aload_n X dX2_copy_21 rfl 0 rfl ?_
        refine gg_get X dX2_copy_22 imX2 0 rfl rfl 1 (by decide) (am 34 rfl) rfl ?_
        refine gg_iload_n X dX2_copy_25 rfl 1 rfl ?_
        refine gg_iload_n X dX2_copy_26 rfl 2 rfl ?_
        refine gg_iconst X dX2_copy_27 (v := (-1)) (by decide) ?_
        refine gg_icmp_ne (tgt := 37) X dX2_copy_28 (by decide) (fun c_28 => ?_) (fun c_28 => ?_)
        · refine gg_aload_n X dX2_copy_37 rfl 0 rfl ?_
          refine gg_get X dX2_copy_38 imX2 0 rfl rfl 1 (by decide) (am 34 rfl) rfl ?_
          refine gg_iload_n X dX2_copy_41 rfl 2 rfl ?_
          obtain ⟨k, hk2, rfl⟩ := b01' h_13 c_16
          refine gg_lald X dX2_copy_42 1 0 rfl rfl k rfl hk2 (by decide) ?_
          refine gg_last X dX2_copy_43 1 0 rfl rfl j rfl hj (by decide) (ws' := cW F (uR u (vp_updL (rG u) j (rG u k)))) rfl ?_
          refine gg_iconst X dX2_copy_44 (v := 1) (by decide) ?_
          exact gg_zret X dX2_copy_45 hr hk rfl (uR u (vp_updL (rG u) j (rG u k))) (Or.inl ⟨j, hj, rfl, rfl, Or.inr ⟨c_28, k, hk2, rfl, rfl⟩⟩) rfl (Nat.le_of_ble_eq_true rfl) (Nat.le_of_ble_eq_true rfl)
        · exact absurd c_28 c_9
      · refine gg_iconst X dX2_copy_19 (v := 0) (by decide) ?_
        exact gg_zret X dX2_copy_20 hr hk rfl u (Or.inr ⟨Or.inr ⟨c_9, b01 h_13 c_16⟩, rfl, rfl⟩) rfl (Nat.le_of_ble_eq_true rfl) (Nat.le_of_ble_eq_true rfl)
set_option maxHeartbeats 4000000 in
set_option maxRecDepth 100000 in
theorem k_get (l : Launch) (D : va_G) (F : CF) (u : CS) (hc : cOk F u) (r s k : Int32) : mG l yX2_get wX2_get ({ frames := 2, cells := 0, slots := 0, locals := 45 }) D vwCl (cT F) [.ref (kH F), .int r, .int s, .int k] (cW F u) (qI D vwCl (fun (x : Int32) (w : CS) => cpGet u r s k x w) (cW F)) := by
  refine gg_met (cc := cX2_get) (nL := 5) (ret := (some .boolean)) (lv := [(0, .ref (kH F)), (1, .int r), (2, .int s), (3, .int k)]) (by decide) rfl rfl (Nat.le_of_ble_eq_true rfl) ?_
  intro p_ e_ s_ m_ bl_ me_ cc_ A_ X hr hk hnm
  refine gg_aload_n X dX2_get_0 rfl 0 rfl ?_
  refine gg_iload_n X dX2_get_1 rfl 2 rfl ?_
  refine gc_q X (gr_V (q0 := 0) X dX2_get_2 X.2.2.2.2.2.1 (k_thingIn l D F u hc s) (cwV 1 X.2.2.2.2.1 (gdV (al 96 rfl) (al 97 rfl) (al 242 rfl) (al 1 rfl) (al 98 rfl)) rfl rfl rfl (by decide +kernel) ⟨Nat.le_of_ble_eq_true rfl, Nat.le_of_ble_eq_true rfl⟩) rfl rfl rfl rfl rfl (Nat.le_of_ble_eq_true rfl) ⟨Nat.le_of_ble_eq_true rfl, Nat.le_of_ble_eq_true rfl⟩) (fun x_2 w_2 h_2 => ?_)
  obtain ⟨ew, h_2⟩ := h_2
  rw [ew]
  rcases h_2 with ⟨j, i, hj, ej, hi, hri, hx⟩ | ⟨hno, hx⟩
  · subst hx
    subst ej
    refine gg_astore X dX2_get_5 (by decide) rfl ?_
    refine gg_iload_n X dX2_get_7 rfl 2 rfl ?_
    refine gc_i X (gr_S X dX2_get_8 X.2.2.2.2.2.1 (k_isR l D (cT F) (cW F u) r) (cwS 1 X.2.2.2.2.1 (gdS (al 50 rfl) (al 51 rfl) (al 1 rfl) (al 52 rfl)) rfl rfl rfl (by decide +kernel) ⟨Nat.le_of_ble_eq_true rfl, Nat.le_of_ble_eq_true rfl⟩) rfl rfl (Nat.le_of_ble_eq_true rfl) ⟨Nat.le_of_ble_eq_true rfl, Nat.le_of_ble_eq_true rfl⟩) (fun r_8 w_8 h_8 => ?_)
    refine gg_if_eq (tgt := 28) X dX2_get_11 (by decide) (fun c_11 => ?_) (fun c_11 => ?_)
    · refine gg_iconst X dX2_get_28 (v := 0) (by decide) ?_
      exact gg_zret X dX2_get_29 hr hk rfl u (Or.inr ⟨fun ⟨j', a', i', q', g1, g2, _⟩ => b01 h_8 c_11 ⟨j', g1, g2⟩, rfl, rfl⟩) rfl (Nat.le_of_ble_eq_true rfl) (Nat.le_of_ble_eq_true rfl)
    · obtain ⟨b, hb, rfl⟩ := b01' h_8 c_11
      refine gg_aload X dX2_get_14 0 rfl ?_
      refine gg_ifnullS X dX2_get_16 ?_
      refine gg_aload X dX2_get_19 0 rfl ?_
      refine gg_iload_n X dX2_get_21 rfl 4 rfl ?_
      refine gc_i X (gr_VN (q0 := (2 * i + 6)) (host := "SliceHeap") X dX2_get_22 X.2.2.2.2.2.1 (k_hasValue l D F u hc i hi k) ⟨va_cnB 1 X.2.2.2.2.1 (gd0 (al 112 rfl)) rfl rfl rfl (X.2.2.2.2.2.2.2.1 _ (nw 15 rfl)) (X.2.2.2.2.1 _ (am 5 rfl)) (by decide +kernel) ⟨Nat.le_of_ble_eq_true rfl, Nat.le_of_ble_eq_true rfl⟩, (X.2.2.2.2.1 _ (am 111 rfl)), (X.2.2.2.2.1 _ (am 243 rfl))⟩ (cW_th F u hi) rfl rfl rfl rfl (Nat.le_of_ble_eq_true rfl) ⟨Nat.le_of_ble_eq_true rfl, Nat.le_of_ble_eq_true rfl⟩) (fun r_22 w_22 h_22 => ?_)
      obtain ⟨ew2, h_22⟩ := h_22
      rw [ew2]
      refine gg_if_ne (tgt := 30) X dX2_get_25 (by decide) (fun c_25 => ?_) (fun c_25 => ?_)
      · obtain ⟨q, hq, rfl⟩ := b01' h_22 c_25
        refine gg_aload_n X dX2_get_30 rfl 1 rfl ?_
        refine gg_get X dX2_get_31 imX2 0 rfl rfl 1 (by decide) (am 34 rfl) rfl ?_
        refine gg_iload_n X dX2_get_34 rfl 2 rfl ?_
        refine gg_aload X dX2_get_35 0 rfl ?_
        refine gg_getN (host := "SliceHeap") X dX2_get_37 imX1 (2 * i + 6) (cW_th _ _ hi) rfl 0 (by decide) (X.2.2.2.2.2.2.2.1 _ (nw 8 rfl)) rfl ?_
        refine gg_iload_n X dX2_get_40 rfl 4 rfl ?_
        refine gg_lald X dX2_get_41 (2 * i + 7) 0 (cW_ar F u hi) rfl q rfl (by have h20 := hc.2.2.2.2.2 i hi; omega) (by decide) ?_
        refine gg_last X dX2_get_42 1 0 rfl rfl b rfl hb (by decide) (ws' := cW F (uR u (vp_updL (rG u) b (vS u i q)))) rfl ?_
        refine gg_iconst X dX2_get_43 (v := 1) (by decide) ?_
        exact gg_zret X dX2_get_44 hr hk rfl (uR u (vp_updL (rG u) b (vS u i q))) (Or.inl ⟨b, j, i, q, ⟨hb, rfl, hj, rfl, hi, hri, hq, rfl⟩, rfl, rfl⟩) rfl (Nat.le_of_ble_eq_true rfl) (Nat.le_of_ble_eq_true rfl)
      · refine gg_iconst X dX2_get_28 (v := 0) (by decide) ?_
        exact gg_zret X dX2_get_29 hr hk rfl u (Or.inr ⟨fun ⟨j', a', i', q', g1, g2, g3, g4, g5, g6, g7, g8⟩ => b01 h_22 c_25 ⟨q', by
            have e1 := r_inj (by omega) (by omega) g4
            subst e1
            have e2 := ob_eq hc hi g5 hri g6
            subst e2
            exact g7, g8⟩, rfl, rfl⟩) rfl (Nat.le_of_ble_eq_true rfl) (Nat.le_of_ble_eq_true rfl)
  · subst hx
    refine gg_astoreN X dX2_get_5 (by decide) rfl ?_
    refine gg_iload_n X dX2_get_7 rfl 2 rfl ?_
    refine gc_i X (gr_S X dX2_get_8 X.2.2.2.2.2.1 (k_isR l D (cT F) (cW F u) r) (cwS 1 X.2.2.2.2.1 (gdS (al 50 rfl) (al 51 rfl) (al 1 rfl) (al 52 rfl)) rfl rfl rfl (by decide +kernel) ⟨Nat.le_of_ble_eq_true rfl, Nat.le_of_ble_eq_true rfl⟩) rfl rfl (Nat.le_of_ble_eq_true rfl) ⟨Nat.le_of_ble_eq_true rfl, Nat.le_of_ble_eq_true rfl⟩) (fun r_8 w_8 h_8 => ?_)
    refine gg_if_eq (tgt := 28) X dX2_get_11 (by decide) (fun c_11 => ?_) (fun c_11 => ?_)
    · refine gg_iconst X dX2_get_28 (v := 0) (by decide) ?_
      exact gg_zret X dX2_get_29 hr hk rfl u (Or.inr ⟨fun ⟨j', a', i', q', g1, g2, _⟩ => b01 h_8 c_11 ⟨j', g1, g2⟩, rfl, rfl⟩) rfl (Nat.le_of_ble_eq_true rfl) (Nat.le_of_ble_eq_true rfl)
    · obtain ⟨b, hb, rfl⟩ := b01' h_8 c_11
      refine gg_aloadN X dX2_get_14 0 rfl ?_
      refine gg_ifnullZ (tgt := 28) X dX2_get_16 (by decide) ?_
      refine gg_iconst X dX2_get_28 (v := 0) (by decide) ?_
      exact gg_zret X dX2_get_29 hr hk rfl u (Or.inr ⟨fun ⟨j', a', i', q', g1, g2, g3, g4, g5, g6, _⟩ => hno a' i' g3 g4 g5 g6, rfl, rfl⟩) rfl (Nat.le_of_ble_eq_true rfl) (Nat.le_of_ble_eq_true rfl)
set_option maxHeartbeats 4000000 in
set_option maxRecDepth 100000 in
theorem k_set (l : Launch) (D : va_G) (F : CF) (u : CS) (hc : cOk F u) (r k s : Int32) : mG l yX2_set wX2_set ({ frames := 2, cells := 0, slots := 0, locals := 45 }) D vwCl (cT F) [.ref (kH F), .int r, .int k, .int s] (cW F u) (qI D vwCl (fun (x : Int32) (w : CS) => cpSet u r k s x w) (cW F)) := by
  refine gg_met (cc := cX2_set) (nL := 5) (ret := (some .boolean)) (lv := [(0, .ref (kH F)), (1, .int r), (2, .int k), (3, .int s)]) (by decide) rfl rfl (Nat.le_of_ble_eq_true rfl) ?_
  intro p_ e_ s_ m_ bl_ me_ cc_ A_ X hr hk hnm
  refine gg_aload_n X dX2_set_0 rfl 0 rfl ?_
  refine gg_iload_n X dX2_set_1 rfl 1 rfl ?_
  refine gc_q X (gr_V (q0 := 0) X dX2_set_2 X.2.2.2.2.2.1 (k_thingIn l D F u hc r) (cwV 1 X.2.2.2.2.1 (gdV (al 96 rfl) (al 97 rfl) (al 242 rfl) (al 1 rfl) (al 98 rfl)) rfl rfl rfl (by decide +kernel) ⟨Nat.le_of_ble_eq_true rfl, Nat.le_of_ble_eq_true rfl⟩) rfl rfl rfl rfl rfl (Nat.le_of_ble_eq_true rfl) ⟨Nat.le_of_ble_eq_true rfl, Nat.le_of_ble_eq_true rfl⟩) (fun x_2 w_2 h_2 => ?_)
  obtain ⟨ew, h_2⟩ := h_2
  rw [ew]
  rcases h_2 with ⟨j, i, hj, ej, hi, hri, hx⟩ | ⟨hno, hx⟩
  · subst hx
    subst ej
    refine gg_astore X dX2_set_5 (by decide) rfl ?_
    refine gg_iload_n X dX2_set_7 rfl 4 rfl ?_
    refine gc_i X (gr_S X dX2_set_8 X.2.2.2.2.2.1 (k_isR l D (cT F) (cW F u) s) (cwS 1 X.2.2.2.2.1 (gdS (al 50 rfl) (al 51 rfl) (al 1 rfl) (al 52 rfl)) rfl rfl rfl (by decide +kernel) ⟨Nat.le_of_ble_eq_true rfl, Nat.le_of_ble_eq_true rfl⟩) rfl rfl (Nat.le_of_ble_eq_true rfl) ⟨Nat.le_of_ble_eq_true rfl, Nat.le_of_ble_eq_true rfl⟩) (fun r_8 w_8 h_8 => ?_)
    refine gg_if_eq (tgt := 28) X dX2_set_11 (by decide) (fun c_11 => ?_) (fun c_11 => ?_)
    · refine gg_iconst X dX2_set_28 (v := 0) (by decide) ?_
      exact gg_zret X dX2_set_29 hr hk rfl u (Or.inr ⟨fun ⟨j', a', i', q', g1, g2, _⟩ => b01 h_8 c_11 ⟨j', g1, g2⟩, rfl, rfl⟩) rfl (Nat.le_of_ble_eq_true rfl) (Nat.le_of_ble_eq_true rfl)
    · obtain ⟨b, hb, rfl⟩ := b01' h_8 c_11
      refine gg_aload X dX2_set_14 0 rfl ?_
      refine gg_ifnullS X dX2_set_16 ?_
      refine gg_aload X dX2_set_19 0 rfl ?_
      refine gg_iload_n X dX2_set_21 rfl 3 rfl ?_
      refine gc_i X (gr_VN (q0 := (2 * i + 6)) (host := "SliceHeap") X dX2_set_22 X.2.2.2.2.2.1 (k_hasValue l D F u hc i hi k) ⟨va_cnB 1 X.2.2.2.2.1 (gd0 (al 112 rfl)) rfl rfl rfl (X.2.2.2.2.2.2.2.1 _ (nw 15 rfl)) (X.2.2.2.2.1 _ (am 5 rfl)) (by decide +kernel) ⟨Nat.le_of_ble_eq_true rfl, Nat.le_of_ble_eq_true rfl⟩, (X.2.2.2.2.1 _ (am 111 rfl)), (X.2.2.2.2.1 _ (am 243 rfl))⟩ (cW_th F u hi) rfl rfl rfl rfl (Nat.le_of_ble_eq_true rfl) ⟨Nat.le_of_ble_eq_true rfl, Nat.le_of_ble_eq_true rfl⟩) (fun r_22 w_22 h_22 => ?_)
      obtain ⟨ew2, h_22⟩ := h_22
      rw [ew2]
      refine gg_if_ne (tgt := 30) X dX2_set_25 (by decide) (fun c_25 => ?_) (fun c_25 => ?_)
      · obtain ⟨q, hq, rfl⟩ := b01' h_22 c_25
        refine gg_aload X dX2_set_30 0 rfl ?_
        refine gg_getN (host := "SliceHeap") X dX2_set_32 imX1 (2 * i + 6) (cW_th _ _ hi) rfl 0 (by decide) (X.2.2.2.2.2.2.2.1 _ (nw 8 rfl)) rfl ?_
        refine gg_iload_n X dX2_set_35 rfl 3 rfl ?_
        refine gg_aload_n X dX2_set_36 rfl 1 rfl ?_
        refine gg_get X dX2_set_37 imX2 0 rfl rfl 1 (by decide) (am 34 rfl) rfl ?_
        refine gg_iload_n X dX2_set_40 rfl 4 rfl ?_
        refine gg_lald X dX2_set_41 1 0 rfl rfl b rfl hb (by decide) ?_
        refine gg_last X dX2_set_42 (2 * i + 7) 0 (cW_ar F u hi) rfl q rfl (by have h20 := hc.2.2.2.2.2 i hi; omega) (by decide) (ws' := cW F (uZ u (sZ u) (rC u) (va_up (vS u) i (vp_updL (vS u i) q (rG u b))))) (cW_setA F u _ hi) ?_
        refine gg_iconst X dX2_set_43 (v := 1) (by decide) ?_
        exact gg_zret X dX2_set_44 hr hk rfl (uZ u (sZ u) (rC u) (va_up (vS u) i (vp_updL (vS u i) q (rG u b)))) (Or.inl ⟨b, j, i, q, ⟨hb, rfl, hj, rfl, hi, hri, hq, rfl⟩, rfl, rfl⟩) rfl (Nat.le_of_ble_eq_true rfl) (Nat.le_of_ble_eq_true rfl)
      · refine gg_iconst X dX2_set_28 (v := 0) (by decide) ?_
        exact gg_zret X dX2_set_29 hr hk rfl u (Or.inr ⟨fun ⟨j', a', i', q', g1, g2, g3, g4, g5, g6, g7, g8⟩ => b01 h_22 c_25 ⟨q', by
            have e1 := r_inj (by omega) (by omega) g4
            subst e1
            have e2 := ob_eq hc hi g5 hri g6
            subst e2
            exact g7, g8⟩, rfl, rfl⟩) rfl (Nat.le_of_ble_eq_true rfl) (Nat.le_of_ble_eq_true rfl)
  · subst hx
    refine gg_astoreN X dX2_set_5 (by decide) rfl ?_
    refine gg_iload_n X dX2_set_7 rfl 4 rfl ?_
    refine gc_i X (gr_S X dX2_set_8 X.2.2.2.2.2.1 (k_isR l D (cT F) (cW F u) s) (cwS 1 X.2.2.2.2.1 (gdS (al 50 rfl) (al 51 rfl) (al 1 rfl) (al 52 rfl)) rfl rfl rfl (by decide +kernel) ⟨Nat.le_of_ble_eq_true rfl, Nat.le_of_ble_eq_true rfl⟩) rfl rfl (Nat.le_of_ble_eq_true rfl) ⟨Nat.le_of_ble_eq_true rfl, Nat.le_of_ble_eq_true rfl⟩) (fun r_8 w_8 h_8 => ?_)
    refine gg_if_eq (tgt := 28) X dX2_set_11 (by decide) (fun c_11 => ?_) (fun c_11 => ?_)
    · refine gg_iconst X dX2_set_28 (v := 0) (by decide) ?_
      exact gg_zret X dX2_set_29 hr hk rfl u (Or.inr ⟨fun ⟨j', a', i', q', g1, g2, _⟩ => b01 h_8 c_11 ⟨j', g1, g2⟩, rfl, rfl⟩) rfl (Nat.le_of_ble_eq_true rfl) (Nat.le_of_ble_eq_true rfl)
    · obtain ⟨b, hb, rfl⟩ := b01' h_8 c_11
      refine gg_aloadN X dX2_set_14 0 rfl ?_
      refine gg_ifnullZ (tgt := 28) X dX2_set_16 (by decide) ?_
      refine gg_iconst X dX2_set_28 (v := 0) (by decide) ?_
      exact gg_zret X dX2_set_29 hr hk rfl u (Or.inr ⟨fun ⟨j', a', i', q', g1, g2, g3, g4, g5, g6, _⟩ => hno a' i' g3 g4 g5 g6, rfl, rfl⟩) rfl (Nat.le_of_ble_eq_true rfl) (Nat.le_of_ble_eq_true rfl)
set_option maxHeartbeats 4000000 in
set_option maxRecDepth 100000 in
theorem k_push (l : Launch) (D : va_G) (F : CF) (u : CS) (hc : cOk F u) (r : Int32) : mG l yX2_push wX2_push ({ frames := 1, cells := 0, slots := 0, locals := 20 }) D vwCl (cT F) [.ref (kH F), .int r] (cW F u) (qI D vwCl (fun (x : Int32) (w : CS) => cpPush u r x w) (cW F)) := by
  refine gg_met (cc := cX2_push) (nL := 2) (ret := (some .int)) (lv := [(0, .ref (kH F)), (1, .int r)]) (by decide) rfl rfl (Nat.le_of_ble_eq_true rfl) ?_
  intro p_ e_ s_ m_ bl_ me_ cc_ A_ X hr hk hnm
  refine gg_iload_n X dX2_push_0 rfl 1 rfl ?_
  refine gc_i X (gr_S X dX2_push_1 X.2.2.2.2.2.1 (k_isR l D (cT F) (cW F u) r) (cwS 1 X.2.2.2.2.1 (gdS (al 50 rfl) (al 51 rfl) (al 1 rfl) (al 52 rfl)) rfl rfl rfl (by decide +kernel) ⟨Nat.le_of_ble_eq_true rfl, Nat.le_of_ble_eq_true rfl⟩) rfl rfl (Nat.le_of_ble_eq_true rfl) ⟨Nat.le_of_ble_eq_true rfl, Nat.le_of_ble_eq_true rfl⟩) (fun r_1 w_1 h_1 => ?_)
  refine gg_if_eq (tgt := 16) X dX2_push_4 (by decide) (fun c_4 => ?_) (fun c_4 => ?_)
  · refine gg_iconst X dX2_push_16 (v := (-1)) (by decide) ?_
    exact gg_iret X dX2_push_17 hr hk u (Or.inr ⟨fun h => b01 h_1 c_4 h.1, rfl, rfl⟩) rfl (Nat.le_of_ble_eq_true rfl) (Nat.le_of_ble_eq_true rfl)
  · obtain ⟨j, hj, rfl⟩ := b01' h_1 c_4
    have h50 := hc.2.2.2.2.1
    refine gg_aload_n X dX2_push_7 rfl 0 rfl ?_
    refine gg_get X dX2_push_8 imX2 0 rfl rfl 4 (by decide) (am 37 rfl) rfl ?_
    refine gg_bipush X dX2_push_11 (v := nI 50) (by decide) ?_
    refine gg_icmp_lt (tgt := 18) X dX2_push_13 (by decide) (fun c_13 => ?_) (fun c_13 => ?_)
    · have h13 : sT u < 50 := (nI_ltI (by omega) (by omega)).mp c_13
      refine gg_aload_n X dX2_push_18 rfl 0 rfl ?_
      refine gg_get X dX2_push_19 imX2 0 rfl rfl 2 (by decide) (am 35 rfl) rfl ?_
      refine gg_aload_n X dX2_push_22 rfl 0 rfl ?_
      refine gg_get X dX2_push_23 imX2 0 rfl rfl 4 (by decide) (am 37 rfl) rfl ?_
      refine gg_aload_n X dX2_push_26 rfl 0 rfl ?_
      refine gg_get X dX2_push_27 imX2 0 rfl rfl 1 (by decide) (am 34 rfl) rfl ?_
      refine gg_iload_n X dX2_push_30 rfl 1 rfl ?_
      refine gg_lald X dX2_push_31 1 0 rfl rfl j rfl hj (by decide) ?_
      refine gg_last X dX2_push_32 2 0 rfl rfl (sT u) rfl h13 (by decide) (ws' := cW F (uS u (vp_updL (sK u) (sT u) (rG u j)))) rfl ?_
      refine gg_aload_n X dX2_push_33 rfl 0 rfl ?_
      refine gg_dup X dX2_push_34 rfl ?_
      refine gg_get X dX2_push_35 imX2 0 rfl rfl 4 (by decide) (am 37 rfl) rfl ?_
      refine gg_iconst X dX2_push_38 (v := 1) (by decide) ?_
      refine gg_iadd X dX2_push_39 (nI_1 _) ?_
      refine gg_put X dX2_push_40 imX2 tyX2 tyX2_ok nmX2 0 rfl rfl 4 (by decide) (am 37 rfl) (ws' := cW F (uA u (rG u) (vp_updL (sK u) (sT u) (rG u j)) (sT u + 1) (mD u) (fU u))) (ty := .int) rfl (by decide +kernel) rfl rfl (Nat.le_of_ble_eq_true rfl) (rfl) ?_
      refine gg_aload_n X dX2_push_43 rfl 0 rfl ?_
      refine gg_get X dX2_push_44 imX2 0 rfl rfl 1 (by decide) (am 34 rfl) rfl ?_
      refine gg_iload_n X dX2_push_47 rfl 1 rfl ?_
      refine gg_ldc2 X (v := 4294967296) (am 14 rfl) dX2_push_48 ?_
      refine gg_last X dX2_push_51 1 0 rfl rfl j rfl hj (by decide) (ws' := cW F (uA u (vp_updL (rG u) j nO) (vp_updL (sK u) (sT u) (rG u j)) (sT u + 1) (mD u) (fU u))) rfl ?_
      refine gg_aload_n X dX2_push_52 rfl 0 rfl ?_
      refine gg_get X dX2_push_53 imX2 0 rfl rfl 4 (by decide) (am 37 rfl) rfl ?_
      exact gg_iret X dX2_push_56 hr hk (uA u (vp_updL (rG u) j nO) (vp_updL (sK u) (sT u) (rG u j)) (sT u + 1) (mD u) (fU u)) (Or.inl ⟨j, hj, rfl, h13, rfl, rfl⟩) rfl (Nat.le_of_ble_eq_true rfl) (Nat.le_of_ble_eq_true rfl)
    · have h13 : ¬ sT u < 50 := fun h => c_13 ((nI_ltI (by omega) (by omega)).mpr h)
      refine gg_iconst X dX2_push_16 (v := (-1)) (by decide) ?_
      exact gg_iret X dX2_push_17 hr hk u (Or.inr ⟨fun h => h13 h.2, rfl, rfl⟩) rfl (Nat.le_of_ble_eq_true rfl) (Nat.le_of_ble_eq_true rfl)
set_option maxHeartbeats 4000000 in
set_option maxRecDepth 100000 in
theorem k_pop (l : Launch) (D : va_G) (F : CF) (u : CS) (hc : cOk F u) (r : Int32) : mG l yX2_pop wX2_pop ({ frames := 1, cells := 0, slots := 0, locals := 20 }) D vwCl (cT F) [.ref (kH F), .int r] (cW F u) (qI D vwCl (fun (x : Int32) (w : CS) => cpPop u r x w) (cW F)) := by
  refine gg_met (cc := cX2_pop) (nL := 2) (ret := (some .int)) (lv := [(0, .ref (kH F)), (1, .int r)]) (by decide) rfl rfl (Nat.le_of_ble_eq_true rfl) ?_
  intro p_ e_ s_ m_ bl_ me_ cc_ A_ X hr hk hnm
  refine gg_iload_n X dX2_pop_0 rfl 1 rfl ?_
  refine gc_i X (gr_S X dX2_pop_1 X.2.2.2.2.2.1 (k_isR l D (cT F) (cW F u) r) (cwS 1 X.2.2.2.2.1 (gdS (al 50 rfl) (al 51 rfl) (al 1 rfl) (al 52 rfl)) rfl rfl rfl (by decide +kernel) ⟨Nat.le_of_ble_eq_true rfl, Nat.le_of_ble_eq_true rfl⟩) rfl rfl (Nat.le_of_ble_eq_true rfl) ⟨Nat.le_of_ble_eq_true rfl, Nat.le_of_ble_eq_true rfl⟩) (fun r_1 w_1 h_1 => ?_)
  refine gg_if_eq (tgt := 14) X dX2_pop_4 (by decide) (fun c_4 => ?_) (fun c_4 => ?_)
  · refine gg_iconst X dX2_pop_14 (v := (-1)) (by decide) ?_
    exact gg_iret X dX2_pop_15 hr hk u (Or.inr ⟨fun h => b01 h_1 c_4 h.1, rfl, rfl⟩) rfl (Nat.le_of_ble_eq_true rfl) (Nat.le_of_ble_eq_true rfl)
  · obtain ⟨j, hj, rfl⟩ := b01' h_1 c_4
    have h50 := hc.2.2.2.2.1
    refine gg_aload_n X dX2_pop_7 rfl 0 rfl ?_
    refine gg_get X dX2_pop_8 imX2 0 rfl rfl 4 (by decide) (am 37 rfl) rfl ?_
    refine gg_if_gt (tgt := 16) X dX2_pop_11 (by decide) (fun c_11 => ?_) (fun c_11 => ?_)
    · have h11 : 0 < sT u := (nI_ltI (a := 0) (by omega) (by omega)).mp c_11
      obtain ⟨n, hn⟩ : ∃ n, sT u = n + 1 := ⟨sT u - 1, by omega⟩
      refine gg_aload_n X dX2_pop_16 rfl 0 rfl ?_
      refine gg_dup X dX2_pop_17 rfl ?_
      refine gg_get X dX2_pop_18 imX2 0 rfl rfl 4 (by decide) (am 37 rfl) rfl ?_
      refine gg_iconst X dX2_pop_21 (v := 1) (by decide) ?_
      refine gg_isub X dX2_pop_22 (v := nI n) (by rw [hn]; exact nI_pred n) ?_
      refine gg_put X dX2_pop_23 imX2 tyX2 tyX2_ok nmX2 0 rfl rfl 4 (by decide) (am 37 rfl) (ws' := cW F (uT u n)) (ty := .int) rfl (by decide +kernel) rfl rfl (Nat.le_of_ble_eq_true rfl) (rfl) ?_
      refine gg_aload_n X dX2_pop_26 rfl 0 rfl ?_
      refine gg_get X dX2_pop_27 imX2 0 rfl rfl 1 (by decide) (am 34 rfl) rfl ?_
      refine gg_iload_n X dX2_pop_30 rfl 1 rfl ?_
      refine gg_aload_n X dX2_pop_31 rfl 0 rfl ?_
      refine gg_get X dX2_pop_32 imX2 0 rfl rfl 2 (by decide) (am 35 rfl) rfl ?_
      refine gg_aload_n X dX2_pop_35 rfl 0 rfl ?_
      refine gg_get X dX2_pop_36 imX2 0 rfl rfl 4 (by decide) (am 37 rfl) rfl ?_
      refine gg_lald X dX2_pop_39 2 0 rfl rfl n rfl (by omega) (by decide) ?_
      refine gg_last X dX2_pop_40 1 0 rfl rfl j rfl hj (by decide) (ws' := cW F (uA u (vp_updL (rG u) j (sK u n)) (sK u) n (mD u) (fU u))) rfl ?_
      refine gg_aload_n X dX2_pop_41 rfl 0 rfl ?_
      refine gg_get X dX2_pop_42 imX2 0 rfl rfl 4 (by decide) (am 37 rfl) rfl ?_
      exact gg_iret X dX2_pop_45 hr hk (uA u (vp_updL (rG u) j (sK u n)) (sK u) n (mD u) (fU u)) (Or.inl ⟨j, n, hj, rfl, hn, rfl, rfl⟩) rfl (Nat.le_of_ble_eq_true rfl) (Nat.le_of_ble_eq_true rfl)
    · refine gg_iconst X dX2_pop_14 (v := (-1)) (by decide) ?_
      exact gg_iret X dX2_pop_15 hr hk u (Or.inr ⟨fun h => c_11 (by have := (nI_ltI (a := 0) (b := sT u) (by omega) (by omega)).mpr h.2; exact this), rfl, rfl⟩) rfl (Nat.le_of_ble_eq_true rfl) (Nat.le_of_ble_eq_true rfl)
set_option maxHeartbeats 4000000 in
set_option maxRecDepth 100000 in
theorem k_look (l : Launch) (D : va_G) (F : CF) (u : CS) (hc : cOk F u) (r : Int32) : mG l yX2_look wX2_look ({ frames := 2, cells := 0, slots := 0, locals := 45 }) D vwCl (cT F) [.ref (kH F), .int r] (cW F u) (qI D vwCl (fun (x : Int32) (w : CS) => cpLook u r x w) (cW F)) := by
  refine gg_met (cc := cX2_look) (nL := 3) (ret := (some .int)) (lv := [(0, .ref (kH F)), (1, .int r)]) (by decide) rfl rfl (Nat.le_of_ble_eq_true rfl) ?_
  intro p_ e_ s_ m_ bl_ me_ cc_ A_ X hr hk hnm
  refine gg_iload_n X dX2_look_0 rfl 1 rfl ?_
  refine gc_i X (gr_S X dX2_look_1 X.2.2.2.2.2.1 (k_isR l D (cT F) (cW F u) r) (cwS 1 X.2.2.2.2.1 (gdS (al 50 rfl) (al 51 rfl) (al 1 rfl) (al 52 rfl)) rfl rfl rfl (by decide +kernel) ⟨Nat.le_of_ble_eq_true rfl, Nat.le_of_ble_eq_true rfl⟩) rfl rfl (Nat.le_of_ble_eq_true rfl) ⟨Nat.le_of_ble_eq_true rfl, Nat.le_of_ble_eq_true rfl⟩) (fun r_1 w_1 h_1 => ?_)
  refine gg_if_ne (tgt := 9) X dX2_look_4 (by decide) (fun c_4 => ?_) (fun c_4 => ?_)
  · refine gg_aload_n X dX2_look_9 rfl 0 rfl ?_
    refine gg_iload_n X dX2_look_10 rfl 1 rfl ?_
    refine gc_q X (gr_V (q0 := 0) X dX2_look_11 X.2.2.2.2.2.1 (k_thingIn l D F u hc r) (cwV 1 X.2.2.2.2.1 (gdV (al 96 rfl) (al 97 rfl) (al 242 rfl) (al 1 rfl) (al 98 rfl)) rfl rfl rfl (by decide +kernel) ⟨Nat.le_of_ble_eq_true rfl, Nat.le_of_ble_eq_true rfl⟩) rfl rfl rfl rfl rfl (Nat.le_of_ble_eq_true rfl) ⟨Nat.le_of_ble_eq_true rfl, Nat.le_of_ble_eq_true rfl⟩) (fun x_11 w_11 h_11 => ?_)
    obtain ⟨ew, h_11⟩ := h_11
    rw [ew]
    rcases h_11 with ⟨j, i, hj, ej, hi, hri, hx⟩ | ⟨hno, hx⟩
    · subst hx
      subst ej
      refine gg_astore_n X dX2_look_14 rfl (by decide) rfl ?_
      refine gg_aload_n X dX2_look_15 rfl 0 rfl ?_
      refine gg_ifnullS X dX2_look_16 ?_
      refine gg_aload_n X dX2_look_19 rfl 0 rfl ?_
      refine gg_getN (host := "SliceHeap") X dX2_look_20 imX1 (2 * i + 6) (cW_th _ _ hi) rfl 1 (by decide) (X.2.2.2.2.2.2.2.1 _ (nw 10 rfl)) rfl ?_
      exact gg_iret X dX2_look_23 hr hk u (⟨rfl, Or.inr ⟨j, hj, rfl, Or.inl ⟨i, hi, hri, rfl⟩⟩⟩) rfl (Nat.le_of_ble_eq_true rfl) (Nat.le_of_ble_eq_true rfl)
    · subst hx
      obtain ⟨j, hj, rfl⟩ := b01' h_1 c_4
      refine gg_astore_nN X dX2_look_14 rfl (by decide) rfl ?_
      refine gg_aload_nN X dX2_look_15 rfl 0 rfl ?_
      refine gg_ifnullZ (tgt := 24) X dX2_look_16 (by decide) ?_
      refine gg_aload_n X dX2_look_24 rfl 1 rfl ?_
      refine gg_get X dX2_look_25 imX2 0 rfl rfl 1 (by decide) (am 34 rfl) rfl ?_
      refine gg_iload_n X dX2_look_28 rfl 2 rfl ?_
      refine gg_lald X dX2_look_29 1 0 rfl rfl j rfl hj (by decide) ?_
      refine gg_ldc2 X (v := 4294967296) (am 14 rfl) dX2_look_30 ?_
      refine gg_lcmp X dX2_look_33 ?_
      refine gg_if_ne (tgt := 42) X dX2_look_34 (by decide) (fun c_34 => ?_) (fun c_34 => ?_)
      · refine gg_bipush X dX2_look_42 (v := -3) (by decide) ?_
        exact gg_iret X dX2_look_44 hr hk u (⟨rfl, Or.inr ⟨j, hj, rfl, Or.inr ⟨fun i hi => hno j i hj rfl hi, Or.inr ⟨fun h => c_34 ((lg_cmp_eq _ _).mpr (h.trans c64n.symm)), rfl⟩⟩⟩⟩) rfl (Nat.le_of_ble_eq_true rfl) (Nat.le_of_ble_eq_true rfl)
      · refine gg_bipush X dX2_look_37 (v := -2) (by decide) ?_
        refine gg_goto (tgt := 44) X dX2_look_39 (by decide) ?_
        exact gg_iret X dX2_look_44 hr hk u (⟨rfl, Or.inr ⟨j, hj, rfl, Or.inr ⟨fun i hi => hno j i hj rfl hi, Or.inl ⟨((lg_cmp_eq _ _).mp c_34).trans c64n, rfl⟩⟩⟩⟩) rfl (Nat.le_of_ble_eq_true rfl) (Nat.le_of_ble_eq_true rfl)
  · refine gg_iconst X dX2_look_7 (v := (-1)) (by decide) ?_
    exact gg_iret X dX2_look_8 hr hk u (⟨rfl, Or.inl ⟨b01 h_1 c_4, rfl⟩⟩) rfl (Nat.le_of_ble_eq_true rfl) (Nat.le_of_ble_eq_true rfl)
set_option maxHeartbeats 4000000 in
set_option maxRecDepth 100000 in
theorem k_numberIn (l : Launch) (D : va_G) (F : CF) (u : CS) (r : Int32) : mG l yX2_numberIn wX2_numberIn ({ frames := 1, cells := 0, slots := 0, locals := 20 }) D vwCl (cT F) [.ref (kH F), .int r] (cW F u) (qI D vwCl (fun (x : Int32) (w : CS) => cpNumIn u r x w) (cW F)) := by
  refine gg_met (cc := cX2_numberIn) (nL := 2) (ret := (some .int)) (lv := [(0, .ref (kH F)), (1, .int r)]) (by decide) rfl rfl (Nat.le_of_ble_eq_true rfl) ?_
  intro p_ e_ s_ m_ bl_ me_ cc_ A_ X hr hk hnm
  refine gg_iload_n X dX2_numberIn_0 rfl 1 rfl ?_
  refine gc_i X (gr_S X dX2_numberIn_1 X.2.2.2.2.2.1 (k_isR l D (cT F) (cW F u) r) (cwS 1 X.2.2.2.2.1 (gdS (al 50 rfl) (al 51 rfl) (al 1 rfl) (al 52 rfl)) rfl rfl rfl (by decide +kernel) ⟨Nat.le_of_ble_eq_true rfl, Nat.le_of_ble_eq_true rfl⟩) rfl rfl (Nat.le_of_ble_eq_true rfl) ⟨Nat.le_of_ble_eq_true rfl, Nat.le_of_ble_eq_true rfl⟩) (fun r_1 w_1 h_1 => ?_)
  refine gg_if_eq (tgt := 30) X dX2_numberIn_4 (by decide) (fun c_4 => ?_) (fun c_4 => ?_)
  · refine gg_iconst X dX2_numberIn_30 (v := 0) (by decide) ?_
    exact gg_iret X dX2_numberIn_31 hr hk u (⟨rfl, Or.inr ⟨fun ⟨k, h1, h2, _⟩ => b01 h_1 c_4 ⟨k, h1, h2⟩, rfl⟩⟩) rfl (Nat.le_of_ble_eq_true rfl) (Nat.le_of_ble_eq_true rfl)
  · obtain ⟨j, hj, rfl⟩ := b01' h_1 c_4
    refine gg_aload_n X dX2_numberIn_7 rfl 0 rfl ?_
    refine gg_get X dX2_numberIn_8 imX2 0 rfl rfl 1 (by decide) (am 34 rfl) rfl ?_
    refine gg_iload_n X dX2_numberIn_11 rfl 1 rfl ?_
    refine gg_lald X dX2_numberIn_12 1 0 rfl rfl j rfl hj (by decide) ?_
    refine gg_ldc2 X (v := 4294967296) (am 14 rfl) dX2_numberIn_13 ?_
    refine gg_lcmp X dX2_numberIn_16 ?_
    refine gg_if_ge (tgt := 30) X dX2_numberIn_17 (by decide) (fun c_17 => ?_) (fun c_17 => ?_)
    · refine gg_iconst X dX2_numberIn_30 (v := 0) (by decide) ?_
      exact gg_iret X dX2_numberIn_31 hr hk u (⟨rfl, Or.inr ⟨fun ⟨k, h1, h2, h3⟩ => by
          have e := r_inj (by omega) (by omega) h2
          subst e
          have h4 := (lg_cmp_ge _ _).mp c_17
          rw [c64n] at h4
          rw [Int64.lt_iff_toInt_lt] at h3
          rw [Int64.le_iff_toInt_le] at h4
          omega, rfl⟩⟩) rfl (Nat.le_of_ble_eq_true rfl) (Nat.le_of_ble_eq_true rfl)
    · refine gg_aload_n X dX2_numberIn_20 rfl 0 rfl ?_
      refine gg_get X dX2_numberIn_21 imX2 0 rfl rfl 1 (by decide) (am 34 rfl) rfl ?_
      refine gg_iload_n X dX2_numberIn_24 rfl 1 rfl ?_
      refine gg_lald X dX2_numberIn_25 1 0 rfl rfl j rfl hj (by decide) ?_
      refine gg_l2i X dX2_numberIn_26 rfl ?_
      refine gg_goto (tgt := 31) X dX2_numberIn_27 (by decide) ?_
      exact gg_iret X dX2_numberIn_31 hr hk u (⟨rfl, Or.inl ⟨j, hj, rfl, by
          have h4 : ¬ nO ≤ rG u j := fun h => c_17 ((lg_cmp_ge _ _).mpr (by rw [c64n]; exact h))
          rw [Int64.lt_iff_toInt_lt]
          rw [Int64.le_iff_toInt_le] at h4
          omega, rfl⟩⟩) rfl (Nat.le_of_ble_eq_true rfl) (Nat.le_of_ble_eq_true rfl)
set_option maxHeartbeats 4000000 in
set_option maxRecDepth 100000 in
theorem k_same (l : Launch) (D : va_G) (F : CF) (u : CS) (r s : Int32) : mG l yX2_same wX2_same ({ frames := 1, cells := 0, slots := 0, locals := 20 }) D vwCl (cT F) [.ref (kH F), .int r, .int s] (cW F u) (qI D vwCl (fun (x : Int32) (w : CS) => cpSame u r s x w) (cW F)) := by
  refine gg_met (cc := cX2_same) (nL := 3) (ret := (some .int)) (lv := [(0, .ref (kH F)), (1, .int r), (2, .int s)]) (by decide) rfl rfl (Nat.le_of_ble_eq_true rfl) ?_
  intro p_ e_ s_ m_ bl_ me_ cc_ A_ X hr hk hnm
  refine gg_iload_n X dX2_same_0 rfl 1 rfl ?_
  refine gc_i X (gr_S X dX2_same_1 X.2.2.2.2.2.1 (k_isR l D (cT F) (cW F u) r) (cwS 1 X.2.2.2.2.1 (gdS (al 50 rfl) (al 51 rfl) (al 1 rfl) (al 52 rfl)) rfl rfl rfl (by decide +kernel) ⟨Nat.le_of_ble_eq_true rfl, Nat.le_of_ble_eq_true rfl⟩) rfl rfl (Nat.le_of_ble_eq_true rfl) ⟨Nat.le_of_ble_eq_true rfl, Nat.le_of_ble_eq_true rfl⟩) (fun r_1 w_1 h_1 => ?_)
  refine gg_if_eq (tgt := 14) X dX2_same_4 (by decide) (fun c_4 => ?_) (fun c_4 => ?_)
  · refine gg_iconst X dX2_same_14 (v := (-1)) (by decide) ?_
    exact gg_iret X dX2_same_15 hr hk u (⟨rfl, Or.inr ⟨fun h => b01 h_1 c_4 h.1, rfl⟩⟩) rfl (Nat.le_of_ble_eq_true rfl) (Nat.le_of_ble_eq_true rfl)
  · obtain ⟨j, hj, rfl⟩ := b01' h_1 c_4
    refine gg_iload_n X dX2_same_7 rfl 2 rfl ?_
    refine gc_i X (gr_S X dX2_same_8 X.2.2.2.2.2.1 (k_isR l D (cT F) (cW F u) s) (cwS 1 X.2.2.2.2.1 (gdS (al 50 rfl) (al 51 rfl) (al 1 rfl) (al 52 rfl)) rfl rfl rfl (by decide +kernel) ⟨Nat.le_of_ble_eq_true rfl, Nat.le_of_ble_eq_true rfl⟩) rfl rfl (Nat.le_of_ble_eq_true rfl) ⟨Nat.le_of_ble_eq_true rfl, Nat.le_of_ble_eq_true rfl⟩) (fun r_8 w_8 h_8 => ?_)
    refine gg_if_ne (tgt := 16) X dX2_same_11 (by decide) (fun c_11 => ?_) (fun c_11 => ?_)
    · obtain ⟨k, hk2, rfl⟩ := b01' h_8 c_11
      refine gg_aload_n X dX2_same_16 rfl 0 rfl ?_
      refine gg_get X dX2_same_17 imX2 0 rfl rfl 1 (by decide) (am 34 rfl) rfl ?_
      refine gg_iload_n X dX2_same_20 rfl 1 rfl ?_
      refine gg_lald X dX2_same_21 1 0 rfl rfl j rfl hj (by decide) ?_
      refine gg_aload_n X dX2_same_22 rfl 0 rfl ?_
      refine gg_get X dX2_same_23 imX2 0 rfl rfl 1 (by decide) (am 34 rfl) rfl ?_
      refine gg_iload_n X dX2_same_26 rfl 2 rfl ?_
      refine gg_lald X dX2_same_27 1 0 rfl rfl k rfl hk2 (by decide) ?_
      refine gg_lcmp X dX2_same_28 ?_
      refine gg_if_ne (tgt := 36) X dX2_same_29 (by decide) (fun c_29 => ?_) (fun c_29 => ?_)
      · refine gg_iconst X dX2_same_36 (v := 0) (by decide) ?_
        exact gg_iret X dX2_same_37 hr hk u (⟨rfl, Or.inl ⟨j, k, hj, rfl, hk2, rfl, Or.inr ⟨fun h => c_29 ((lg_cmp_eq _ _).mpr h), rfl⟩⟩⟩) rfl (Nat.le_of_ble_eq_true rfl) (Nat.le_of_ble_eq_true rfl)
      · refine gg_iconst X dX2_same_32 (v := 1) (by decide) ?_
        refine gg_goto (tgt := 37) X dX2_same_33 (by decide) ?_
        exact gg_iret X dX2_same_37 hr hk u (⟨rfl, Or.inl ⟨j, k, hj, rfl, hk2, rfl, Or.inl ⟨(lg_cmp_eq _ _).mp c_29, rfl⟩⟩⟩) rfl (Nat.le_of_ble_eq_true rfl) (Nat.le_of_ble_eq_true rfl)
    · refine gg_iconst X dX2_same_14 (v := (-1)) (by decide) ?_
      exact gg_iret X dX2_same_15 hr hk u (⟨rfl, Or.inr ⟨fun h => b01 h_8 c_11 h.2, rfl⟩⟩) rfl (Nat.le_of_ble_eq_true rfl) (Nat.le_of_ble_eq_true rfl)
set_option maxHeartbeats 4000000 in
set_option maxRecDepth 100000 in
theorem k_shrink (l : Launch) (D : va_G) (F : CF) (u : CS) (hc : cOk F u) (r : Int32) : mG l yX2_shrink wX2_shrink ({ frames := 2, cells := 0, slots := 0, locals := 45 }) D vwCl (cT F) [.ref (kH F), .int r] (cW F u) (qI D vwCl (fun (x : Int32) (w : CS) => cpShr u r x w) (cW F)) := by
  refine gg_met (cc := cX2_shrink) (nL := 3) (ret := (some .int)) (lv := [(0, .ref (kH F)), (1, .int r)]) (by decide) rfl rfl (Nat.le_of_ble_eq_true rfl) ?_
  intro p_ e_ s_ m_ bl_ me_ cc_ A_ X hr hk hnm
  refine gg_aload_n X dX2_shrink_0 rfl 0 rfl ?_
  refine gg_iload_n X dX2_shrink_1 rfl 1 rfl ?_
  refine gc_q X (gr_V (q0 := 0) X dX2_shrink_2 X.2.2.2.2.2.1 (k_thingIn l D F u hc r) (cwV 1 X.2.2.2.2.1 (gdV (al 96 rfl) (al 97 rfl) (al 242 rfl) (al 1 rfl) (al 98 rfl)) rfl rfl rfl (by decide +kernel) ⟨Nat.le_of_ble_eq_true rfl, Nat.le_of_ble_eq_true rfl⟩) rfl rfl rfl rfl rfl (Nat.le_of_ble_eq_true rfl) ⟨Nat.le_of_ble_eq_true rfl, Nat.le_of_ble_eq_true rfl⟩) (fun x_2 w_2 h_2 => ?_)
  obtain ⟨ew, h_2⟩ := h_2
  rw [ew]
  rcases h_2 with ⟨j, i, hj, ej, hi, hri, hx⟩ | ⟨hno, hx⟩
  · subst hx
    subst ej
    have h20 := hc.2.2.2.2.2 i hi
    refine gg_astore_n X dX2_shrink_5 rfl (by decide) rfl ?_
    refine gg_aload_n X dX2_shrink_6 rfl 0 rfl ?_
    refine gg_ifnullS X dX2_shrink_7 ?_
    refine gg_aload_n X dX2_shrink_10 rfl 0 rfl ?_
    refine gg_getN (host := "SliceHeap") X dX2_shrink_11 imX1 (2 * i + 6) (cW_th _ _ hi) rfl 1 (by decide) (X.2.2.2.2.2.2.2.1 _ (nw 10 rfl)) rfl ?_
    refine gg_if_gt (tgt := 19) X dX2_shrink_14 (by decide) (fun c_14 => ?_) (fun c_14 => ?_)
    · have h14 : 0 < sZ u i := (nI_ltI (a := 0) (by omega) (by omega)).mp c_14
      obtain ⟨n, hn⟩ : ∃ n, sZ u i = n + 1 := ⟨sZ u i - 1, by omega⟩
      refine gg_aload_n X dX2_shrink_19 rfl 0 rfl ?_
      refine gg_dup X dX2_shrink_20 rfl ?_
      refine gg_getN (host := "SliceHeap") X dX2_shrink_21 imX1 (2 * i + 6) (cW_th _ _ hi) rfl 1 (by decide) (X.2.2.2.2.2.2.2.1 _ (nw 10 rfl)) rfl ?_
      refine gg_iconst X dX2_shrink_24 (v := 1) (by decide) ?_
      refine gg_isub X dX2_shrink_25 (v := nI n) (by rw [hn]; exact nI_pred n) ?_
      refine gg_putN (host := "SliceHeap") X dX2_shrink_26 imX1 tyX1 tyX1_ok nmX1 (2 * i + 6) (cW_th _ _ hi) rfl 1 (by decide) (X.2.2.2.2.2.2.2.1 _ (nw 10 rfl)) (ws' := cW F (uZ u (va_up (sZ u) i n) (va_up (rC u) i (rC u i)) (vS u))) (ty := .int) rfl (by decide +kernel) rfl rfl (Nat.le_of_ble_eq_true rfl) (cW_setT F u n (rC u i) hi) ?_
      refine gg_aload_n X dX2_shrink_29 rfl 0 rfl ?_
      refine gg_getN (host := "SliceHeap") X dX2_shrink_30 imX1 (2 * i + 6) (cW_th _ _ hi) rfl 1 (by decide) (X.2.2.2.2.2.2.2.1 _ (nw 10 rfl)) rfl ?_
      exact gg_iret X dX2_shrink_33 hr hk (uZ u (va_up (sZ u) i n) (va_up (rC u) i (rC u i)) (vS u)) (Or.inl ⟨j, i, n, ⟨hj, rfl, hi, hri, hn⟩, by show nI (va_up (sZ u) i n i) = nI n; rw [va_up_self], rfl⟩) rfl (Nat.le_of_ble_eq_true rfl) (Nat.le_of_ble_eq_true rfl)
    · refine gg_iconst X dX2_shrink_17 (v := (-1)) (by decide) ?_
      exact gg_iret X dX2_shrink_18 hr hk u (Or.inr ⟨fun ⟨j', i', n', g1, g2, g3, g4, g5⟩ => by
          have e1 := r_inj (by omega) (by omega) g2
          subst e1
          have e2 := ob_eq hc hi g3 hri g4
          subst e2
          exact c_14 ((nI_ltI (a := 0) (by omega) (by omega)).mpr (by omega)), rfl, rfl⟩) rfl (Nat.le_of_ble_eq_true rfl) (Nat.le_of_ble_eq_true rfl)
  · subst hx
    refine gg_astore_nN X dX2_shrink_5 rfl (by decide) rfl ?_
    refine gg_aload_nN X dX2_shrink_6 rfl 0 rfl ?_
    refine gg_ifnullZ (tgt := 17) X dX2_shrink_7 (by decide) ?_
    refine gg_iconst X dX2_shrink_17 (v := (-1)) (by decide) ?_
    exact gg_iret X dX2_shrink_18 hr hk u (Or.inr ⟨fun ⟨j', i', n', g1, g2, g3, g4, g5⟩ => hno j' i' g1 g2 g3 g4, rfl, rfl⟩) rfl (Nat.le_of_ble_eq_true rfl) (Nat.le_of_ble_eq_true rfl)
set_option maxHeartbeats 4000000 in
set_option maxRecDepth 100000 in
theorem k_grow (l : Launch) (D : va_G) (F : CF) (u : CS) (hc : cOk F u) (r s : Int32) : mG l yX2_grow wX2_grow ({ frames := 5, cells := 0, slots := 0, locals := 110 }) D vwCl (cT F) [.ref (kH F), .int r, .int s] (cW F u) (qI D vwCl (fun (x : Int32) (w : CS) => cpGrow F u r s x w) (cW F)) := by
  refine gg_met (cc := cX2_grow) (nL := 4) (ret := (some .int)) (lv := [(0, .ref (kH F)), (1, .int r), (2, .int s)]) (by decide) rfl rfl (Nat.le_of_ble_eq_true rfl) ?_
  intro p_ e_ s_ m_ bl_ me_ cc_ A_ X hr hk hnm
  refine gg_aload_n X dX2_grow_0 rfl 0 rfl ?_
  refine gg_iload_n X dX2_grow_1 rfl 1 rfl ?_
  refine gc_q X (gr_V (q0 := 0) X dX2_grow_2 X.2.2.2.2.2.1 (k_thingIn l D F u hc r) (cwV 1 X.2.2.2.2.1 (gdV (al 96 rfl) (al 97 rfl) (al 242 rfl) (al 1 rfl) (al 98 rfl)) rfl rfl rfl (by decide +kernel) ⟨Nat.le_of_ble_eq_true rfl, Nat.le_of_ble_eq_true rfl⟩) rfl rfl rfl rfl rfl (Nat.le_of_ble_eq_true rfl) ⟨Nat.le_of_ble_eq_true rfl, Nat.le_of_ble_eq_true rfl⟩) (fun x_2 w_2 h_2 => ?_)
  obtain ⟨ew, h_2⟩ := h_2
  rw [ew]
  rcases h_2 with ⟨j, i, hj, ej, hi, hri, hx⟩ | ⟨hno, hx⟩
  · subst hx
    subst ej
    have h20 := hc.2.2.2.2.2 i hi
    refine gg_astore_n X dX2_grow_5 rfl (by decide) rfl ?_
    refine gg_aload_n X dX2_grow_6 rfl 0 rfl ?_
    refine gg_ifnullS X dX2_grow_7 ?_
    refine gg_iload_n X dX2_grow_10 rfl 3 rfl ?_
    refine gc_i X (gr_S X dX2_grow_11 X.2.2.2.2.2.1 (k_isR l D (cT F) (cW F u) s) (cwS 1 X.2.2.2.2.1 (gdS (al 50 rfl) (al 51 rfl) (al 1 rfl) (al 52 rfl)) rfl rfl rfl (by decide +kernel) ⟨Nat.le_of_ble_eq_true rfl, Nat.le_of_ble_eq_true rfl⟩) rfl rfl (Nat.le_of_ble_eq_true rfl) ⟨Nat.le_of_ble_eq_true rfl, Nat.le_of_ble_eq_true rfl⟩) (fun r_11 w_11 h_11 => ?_)
    refine gg_if_eq (tgt := 26) X dX2_grow_14 (by decide) (fun c_14 => ?_) (fun c_14 => ?_)
    · refine gg_iconst X dX2_grow_26 (v := (-1)) (by decide) ?_
      exact gg_iret X dX2_grow_27 hr hk u (Or.inr ⟨fun ⟨j', i', a', g1, g2, g3, g4, g5, g6, g7⟩ => b01 h_11 c_14 ⟨a', g5, g6⟩, rfl, rfl⟩) rfl (Nat.le_of_ble_eq_true rfl) (Nat.le_of_ble_eq_true rfl)
    · obtain ⟨a, ha, rfl⟩ := b01' h_11 c_14
      refine gg_aload_n X dX2_grow_17 rfl 0 rfl ?_
      refine gg_getN (host := "SliceHeap") X dX2_grow_18 imX1 (2 * i + 6) (cW_th _ _ hi) rfl 1 (by decide) (X.2.2.2.2.2.2.2.1 _ (nw 10 rfl)) rfl ?_
      refine gg_bipush X dX2_grow_21 (v := nI 20) (by decide) ?_
      refine gg_icmp_lt (tgt := 28) X dX2_grow_23 (by decide) (fun c_23 => ?_) (fun c_23 => ?_)
      · have h23 : sZ u i < 20 := (nI_ltI (by omega) (by omega)).mp c_23
        refine gg_aload_n X dX2_grow_28 rfl 1 rfl ?_
        refine gg_iconst X dX2_grow_29 (v := nI 1) (by decide) ?_
        refine gc_i X (gr_V (q0 := 0) X dX2_grow_30 X.2.2.2.2.2.1 (k_room l D F u hc 1 (by decide)) (cwV 1 X.2.2.2.2.1 (gdV (al 53 rfl) (al 54 rfl) (al 231 rfl) (al 1 rfl) (al 55 rfl)) rfl rfl rfl (by decide +kernel) ⟨Nat.le_of_ble_eq_true rfl, Nat.le_of_ble_eq_true rfl⟩) rfl rfl rfl rfl rfl (Nat.le_of_ble_eq_true rfl) ⟨Nat.le_of_ble_eq_true rfl, Nat.le_of_ble_eq_true rfl⟩) (fun r_30 v h_30 => ?_)
        obtain ⟨hwd, h_30⟩ := h_30
        obtain ⟨e1, e2, e3, e4, e5, e6, e7, e8, e9, e10⟩ := id hwd.1
        refine gg_if_ne (tgt := 41) X dX2_grow_33 (by decide) (fun c_33 => ?_) (fun c_33 => ?_)
        · have hi2 : i < nU v := by rw [e6]; exact hi
          refine gg_lve (lv' := [(3, .ref (tH v i)), (0, .ref (kH F)), (1, .int (nI j)), (2, .int (nI a))]) (by rw [e7]; rfl) ?_
          refine gg_aload_n X dX2_grow_41 rfl 0 rfl ?_
          refine gg_getN (host := "SliceHeap") X dX2_grow_42 imX1 (2 * i + 6) (cW_th _ _ hi2) rfl 0 (by decide) (X.2.2.2.2.2.2.2.1 _ (nw 8 rfl)) rfl ?_
          refine gg_aload_n X dX2_grow_45 rfl 0 rfl ?_
          refine gg_getN (host := "SliceHeap") X dX2_grow_46 imX1 (2 * i + 6) (cW_th _ _ hi2) rfl 1 (by decide) (X.2.2.2.2.2.2.2.1 _ (nw 10 rfl)) rfl ?_
          refine gg_aload_n X dX2_grow_49 rfl 1 rfl ?_
          refine gg_get X dX2_grow_50 imX2 0 rfl rfl 1 (by decide) (am 34 rfl) rfl ?_
          refine gg_iload_n X dX2_grow_53 rfl 3 rfl ?_
          refine gg_lald X dX2_grow_54 1 0 rfl rfl a rfl ha (by decide) ?_
          refine gg_last X dX2_grow_55 (2 * i + 7) 0 (cW_ar F v hi2) rfl (sZ v i) rfl (by rw [e9]; omega) (by decide) (ws' := cW F (uZ v (sZ v) (rC v) (va_up (vS v) i (vp_updL (vS v i) (sZ v i) (rG v a))))) (cW_setA F v _ hi2) ?_
          refine gg_aload_n X dX2_grow_56 rfl 0 rfl ?_
          refine gg_dup X dX2_grow_57 rfl ?_
          refine gg_getN (host := "SliceHeap") X dX2_grow_58 imX1 (2 * i + 6) (cW_th F (uZ v (sZ v) (rC v) (va_up (vS v) i (vp_updL (vS v i) (sZ v i) (rG v a)))) hi2) rfl 1 (by decide) (X.2.2.2.2.2.2.2.1 _ (nw 10 rfl)) rfl ?_
          refine gg_iconst X dX2_grow_61 (v := 1) (by decide) ?_
          refine gg_iadd X dX2_grow_62 (nI_1 _) ?_
          refine gg_putN (host := "SliceHeap") X dX2_grow_63 imX1 tyX1 tyX1_ok nmX1 (2 * i + 6) (cW_th F (uZ v (sZ v) (rC v) (va_up (vS v) i (vp_updL (vS v i) (sZ v i) (rG v a)))) hi2) rfl 1 (by decide) (X.2.2.2.2.2.2.2.1 _ (nw 10 rfl)) (ws' := cW F (uZ v (va_up (sZ v) i (sZ v i + 1)) (va_up (rC v) i (rC v i)) (va_up (vS v) i (vp_updL (vS v i) (sZ v i) (rG v a))))) (ty := .int) rfl (by decide +kernel) rfl rfl (Nat.le_of_ble_eq_true rfl) (cW_setT F (uZ v (sZ v) (rC v) (va_up (vS v) i (vp_updL (vS v i) (sZ v i) (rG v a)))) (sZ v i + 1) (rC v i) hi2) ?_
          refine gg_aload_n X dX2_grow_66 rfl 0 rfl ?_
          refine gg_getN (host := "SliceHeap") X dX2_grow_67 imX1 (2 * i + 6) (cW_th F (uZ v (va_up (sZ v) i (sZ v i + 1)) (va_up (rC v) i (rC v i)) (va_up (vS v) i (vp_updL (vS v i) (sZ v i) (rG v a)))) hi2) rfl 1 (by decide) (X.2.2.2.2.2.2.2.1 _ (nw 10 rfl)) rfl ?_
          exact gg_iret X dX2_grow_70 hr hk (uZ v (va_up (sZ v) i (sZ v i + 1)) (va_up (rC v) i (rC v i)) (va_up (vS v) i (vp_updL (vS v i) (sZ v i) (rG v a)))) (Or.inl ⟨j, i, a, v, ⟨hj, rfl, hi, hri, ha, rfl, h23⟩, hwd, Or.inl ⟨b01' h_30 c_33, by show nI (va_up (sZ v) i (sZ v i + 1) i) = _; rw [va_up_self, e9], _, by rw [e9, e10, e1]⟩⟩) rfl (Nat.le_of_ble_eq_true rfl) (Nat.le_of_ble_eq_true rfl)
        · refine gg_aload_n X dX2_grow_36 rfl 1 rfl ?_
          refine gc_i X (gr_V (q0 := 0) X dX2_grow_37 X.2.2.2.2.2.1 (k_full l D F v) (cwV 0 X.2.2.2.2.1 (gdV (al 90 rfl) (al 91 rfl) (al 241 rfl) (al 1 rfl) (al 92 rfl)) rfl rfl rfl (by decide +kernel) ⟨Nat.le_of_ble_eq_true rfl, Nat.le_of_ble_eq_true rfl⟩) rfl rfl rfl rfl rfl (Nat.le_of_ble_eq_true rfl) ⟨Nat.le_of_ble_eq_true rfl, Nat.le_of_ble_eq_true rfl⟩) (fun r_37 w_37 h_37 => ?_)
          obtain ⟨er, ew3⟩ := h_37
          rw [er, ew3]
          exact gg_iret X dX2_grow_40 hr hk (uF v (fU v + 1)) (Or.inl ⟨j, i, a, v, ⟨hj, rfl, hi, hri, ha, rfl, h23⟩, hwd, Or.inr ⟨Nat.not_le.mp (b01 h_30 c_33), rfl, by rw [e5]⟩⟩) rfl (Nat.le_of_ble_eq_true rfl) (Nat.le_of_ble_eq_true rfl)
      · refine gg_iconst X dX2_grow_26 (v := (-1)) (by decide) ?_
        exact gg_iret X dX2_grow_27 hr hk u (Or.inr ⟨fun ⟨j', i', a', g1, g2, g3, g4, g5, g6, g7⟩ => by
            have e1 := r_inj (by omega) (by omega) g2
            subst e1
            have e2 := ob_eq hc hi g3 hri g4
            subst e2
            exact c_23 ((nI_ltI (by omega) (by omega)).mpr g7), rfl, rfl⟩) rfl (Nat.le_of_ble_eq_true rfl) (Nat.le_of_ble_eq_true rfl)
  · subst hx
    refine gg_astore_nN X dX2_grow_5 rfl (by decide) rfl ?_
    refine gg_aload_nN X dX2_grow_6 rfl 0 rfl ?_
    refine gg_ifnullZ (tgt := 26) X dX2_grow_7 (by decide) ?_
    refine gg_iconst X dX2_grow_26 (v := (-1)) (by decide) ?_
    exact gg_iret X dX2_grow_27 hr hk u (Or.inr ⟨fun ⟨j', i', a', g1, g2, g3, g4, g5, g6, g7⟩ => hno j' i' g1 g2 g3 g4, rfl, rfl⟩) rfl (Nat.le_of_ble_eq_true rfl) (Nat.le_of_ble_eq_true rfl)
set_option maxHeartbeats 4000000 in
set_option maxRecDepth 100000 in
theorem k_make (l : Launch) (D : va_G) (F : CF) (u : CS) (hc : cOk F u) (r n s : Int32) : mG l yX2_make wX2_make ({ frames := 5, cells := 2, slots := 23, locals := 110 }) D vwCl (cT F) [.ref (kH F), .int r, .int n, .int s] (cW F u) (qI D vwCl (fun (x : Int32) (w : CS) => cpMake F u r n s x w) (cW F)) := by
  refine gg_met (cc := cX2_make) (nL := 6) (ret := (some .int)) (lv := [(0, .ref (kH F)), (1, .int r), (2, .int n), (3, .int s)]) (by decide) rfl rfl (Nat.le_of_ble_eq_true rfl) ?_
  intro p_ e_ s_ m_ bl_ me_ cc_ A_ X hr hk hnm
  refine gg_iload_n X dX2_make_0 rfl 1 rfl ?_
  refine gc_i X (gr_S X dX2_make_1 X.2.2.2.2.2.1 (k_isR l D (cT F) (cW F u) r) (cwS 1 X.2.2.2.2.1 (gdS (al 50 rfl) (al 51 rfl) (al 1 rfl) (al 52 rfl)) rfl rfl rfl (by decide +kernel) ⟨Nat.le_of_ble_eq_true rfl, Nat.le_of_ble_eq_true rfl⟩) rfl rfl (Nat.le_of_ble_eq_true rfl) ⟨Nat.le_of_ble_eq_true rfl, Nat.le_of_ble_eq_true rfl⟩) (fun r_1 w_1 h_1 => ?_)
  refine gg_if_eq (tgt := 24) X dX2_make_4 (by decide) (fun c_4 => ?_) (fun c_4 => ?_)
  · refine gg_iconst X dX2_make_24 (v := (-1)) (by decide) ?_
    exact gg_iret X dX2_make_25 hr hk u (Or.inr ⟨fun ⟨j', k', a', g1, g2, g3, g4, g5, g6⟩ => b01 h_1 c_4 ⟨j', g1, g2⟩, rfl, rfl⟩) rfl (Nat.le_of_ble_eq_true rfl) (Nat.le_of_ble_eq_true rfl)
  · obtain ⟨j, hj, rfl⟩ := b01' h_1 c_4
    refine gg_iload_n X dX2_make_7 rfl 3 rfl ?_
    refine gc_i X (gr_S X dX2_make_8 X.2.2.2.2.2.1 (k_isR l D (cT F) (cW F u) s) (cwS 1 X.2.2.2.2.1 (gdS (al 50 rfl) (al 51 rfl) (al 1 rfl) (al 52 rfl)) rfl rfl rfl (by decide +kernel) ⟨Nat.le_of_ble_eq_true rfl, Nat.le_of_ble_eq_true rfl⟩) rfl rfl (Nat.le_of_ble_eq_true rfl) ⟨Nat.le_of_ble_eq_true rfl, Nat.le_of_ble_eq_true rfl⟩) (fun r_8 w_8 h_8 => ?_)
    refine gg_if_eq (tgt := 24) X dX2_make_11 (by decide) (fun c_11 => ?_) (fun c_11 => ?_)
    · refine gg_iconst X dX2_make_24 (v := (-1)) (by decide) ?_
      exact gg_iret X dX2_make_25 hr hk u (Or.inr ⟨fun ⟨j', k', a', g1, g2, g3, g4, g5, g6⟩ => b01 h_8 c_11 ⟨a', g5, g6⟩, rfl, rfl⟩) rfl (Nat.le_of_ble_eq_true rfl) (Nat.le_of_ble_eq_true rfl)
    · obtain ⟨a, ha, rfl⟩ := b01' h_8 c_11
      refine gg_iload_n X dX2_make_14 rfl 2 rfl ?_
      refine gg_if_lt (tgt := 24) X dX2_make_15 (by decide) (fun c_15 => ?_) (fun c_15 => ?_)
      · refine gg_iconst X dX2_make_24 (v := (-1)) (by decide) ?_
        exact gg_iret X dX2_make_25 hr hk u (Or.inr ⟨fun ⟨j', k', a', g1, g2, g3, g4, g5, g6⟩ => ix_no (n := 21) (by decide) (Or.inl c_15) k' (by omega) g4, rfl, rfl⟩) rfl (Nat.le_of_ble_eq_true rfl) (Nat.le_of_ble_eq_true rfl)
      · refine gg_iload_n X dX2_make_18 rfl 2 rfl ?_
        refine gg_bipush X dX2_make_19 (v := nI 20) (by decide) ?_
        refine gg_icmp_le (tgt := 26) X dX2_make_21 (by decide) (fun c_21 => ?_) (fun c_21 => ?_)
        · obtain ⟨k, hk2, rfl⟩ : ∃ k, k ≤ 20 ∧ n = nI k := by
            obtain ⟨k, h1, h2⟩ := nI_of2 (M := nI 20) (n := 20) (by decide) c_15 c_21
            exact ⟨k, h1, h2⟩
          refine gg_aload_n X dX2_make_26 rfl 0 rfl ?_
          refine gg_iconst X dX2_make_27 (v := nI 2) (by decide) ?_
          refine gg_iload_n X dX2_make_28 rfl 2 rfl ?_
          refine gg_iadd X dX2_make_29 (nI_add _ _) ?_
          refine gc_i X (gr_V (q0 := 0) X dX2_make_30 X.2.2.2.2.2.1 (k_room l D F u hc (2 + k) (by omega)) (cwV 1 X.2.2.2.2.1 (gdV (al 53 rfl) (al 54 rfl) (al 231 rfl) (al 1 rfl) (al 55 rfl)) rfl rfl rfl (by decide +kernel) ⟨Nat.le_of_ble_eq_true rfl, Nat.le_of_ble_eq_true rfl⟩) rfl rfl rfl rfl rfl (Nat.le_of_ble_eq_true rfl) ⟨Nat.le_of_ble_eq_true rfl, Nat.le_of_ble_eq_true rfl⟩) (fun r_30 v h_30 => ?_)
          obtain ⟨hwd, h_30⟩ := h_30
          obtain ⟨e1, e2, e3, e4, e5, e6, e7, e8, e9, e10⟩ := id hwd.1
          have hcv : cOk F v := hc.sm hwd.1
          refine gg_if_eq (tgt := 53) X dX2_make_33 (by decide) (fun c_33 => ?_) (fun c_33 => ?_)
          · refine gg_ldc2 X (v := 4294967296) (am 14 rfl) dX2_make_53 ?_
            refine gg_lstore X dX2_make_56 (by decide) rfl ?_
            refine gg_lload X dX2_make_58 0 rfl ?_
            refine gg_ldc2 X (v := 4294967296) (am 14 rfl) dX2_make_60 ?_
            refine gg_lcmp X dX2_make_63 ?_
            refine gg_if_ne (tgt := 72) X dX2_make_64 (by decide) (fun c_64 => ?_) (fun c_64 => ?_)
            · exact absurd ((lg_cmp_eq _ _).mpr rfl) c_64
            · refine gg_aload_n X dX2_make_67 rfl 1 rfl ?_
              refine gc_i X (gr_V (q0 := 0) X dX2_make_68 X.2.2.2.2.2.1 (k_full l D F v) (cwV 0 X.2.2.2.2.1 (gdV (al 90 rfl) (al 91 rfl) (al 241 rfl) (al 1 rfl) (al 92 rfl)) rfl rfl rfl (by decide +kernel) ⟨Nat.le_of_ble_eq_true rfl, Nat.le_of_ble_eq_true rfl⟩) rfl rfl rfl rfl rfl (Nat.le_of_ble_eq_true rfl) ⟨Nat.le_of_ble_eq_true rfl, Nat.le_of_ble_eq_true rfl⟩) (fun r_68 w_68 h_68 => ?_)
              obtain ⟨er, ew3⟩ := h_68
              rw [er, ew3]
              exact gg_iret X dX2_make_71 hr hk (uF v (fU v + 1)) (Or.inl ⟨j, k, a, v, ⟨hj, rfl, hk2, rfl, ha, rfl⟩, hwd, Or.inr ⟨Nat.not_le.mp (b01 h_30 c_33), rfl, by rw [e5]⟩⟩) rfl (Nat.le_of_ble_eq_true rfl) (Nat.le_of_ble_eq_true rfl)
          · refine gg_aload_n X dX2_make_36 rfl 0 rfl ?_
            refine gg_get X dX2_make_37 imX2 0 rfl rfl 3 (by decide) (am 36 rfl) rfl ?_
            refine gg_iload_n X dX2_make_40 rfl 2 rfl ?_
            refine gg_aload_n X dX2_make_41 rfl 0 rfl ?_
            refine gg_get X dX2_make_42 imX2 0 rfl rfl 1 (by decide) (am 34 rfl) rfl ?_
            refine gg_iload_n X dX2_make_45 rfl 3 rfl ?_
            refine gg_lald X dX2_make_46 1 0 rfl rfl a rfl ha (by decide) ?_
            refine gc_l X (gr_VN (q0 := 3) (host := "SliceHeap") X dX2_make_47 X.2.2.2.2.2.1 (k_place l D F v hcv k hk2 (rG v a) (fun i hf => pFst.lt hc hwd (b01' h_30 c_33) hf)) ⟨va_cnB 2 X.2.2.2.2.1 (gd0 (al 74 rfl)) rfl rfl rfl (X.2.2.2.2.2.2.2.1 _ (nw 6 rfl)) (X.2.2.2.2.1 _ (am 3 rfl)) (by decide +kernel) ⟨Nat.le_of_ble_eq_true rfl, Nat.le_of_ble_eq_true rfl⟩, (X.2.2.2.2.1 _ (am 73 rfl)), (X.2.2.2.2.1 _ (am 238 rfl))⟩ rfl rfl rfl rfl rfl (Nat.le_of_ble_eq_true rfl) ⟨Nat.le_of_ble_eq_true rfl, Nat.le_of_ble_eq_true rfl⟩) (fun r_47 v2 h_47 => ?_)
            obtain ⟨i, er, hp⟩ := h_47
            rw [er]
            have hp0 := hp
            obtain ⟨p1, p2, p3, p4, p5, p6, p7, p8, p9, p10, p11, p12, p13⟩ := hp0
            have hi32 : i < 2147483648 := by have := hc.N; omega
            refine gg_goto (tgt := 56) X dX2_make_50 (by decide) ?_
            refine gg_lstore X dX2_make_56 (by decide) rfl ?_
            refine gg_lload X dX2_make_58 0 rfl ?_
            refine gg_ldc2 X (v := 4294967296) (am 14 rfl) dX2_make_60 ?_
            refine gg_lcmp X dX2_make_63 ?_
            refine gg_if_ne (tgt := 72) X dX2_make_64 (by decide) (fun c_64 => ?_) (fun c_64 => ?_)
            · refine gg_aload_n X dX2_make_72 rfl 1 rfl ?_
              refine gg_get X dX2_make_73 imX2 0 rfl rfl 1 (by decide) (am 34 rfl) rfl ?_
              refine gg_iload_n X dX2_make_76 rfl 2 rfl ?_
              refine gg_lload X dX2_make_77 0 rfl ?_
              refine gg_last X dX2_make_79 1 0 rfl rfl j rfl hj (by decide) (ws' := cW F (uR v2 (vp_updL (rG v2) j (oB i)))) rfl ?_
              refine gg_aload_n X dX2_make_80 rfl 1 rfl ?_
              refine gg_dup X dX2_make_81 rfl ?_
              refine gg_get X dX2_make_82 imX2 0 rfl rfl 5 (by decide) (am 38 rfl) rfl ?_
              refine gg_iconst X dX2_make_85 (v := 1) (by decide) ?_
              refine gg_iadd X dX2_make_86 (nI_1 _) ?_
              refine gg_put X dX2_make_87 imX2 tyX2 tyX2_ok nmX2 0 rfl rfl 5 (by decide) (am 38 rfl) (ws' := cW F (uA v2 (vp_updL (rG v2) j (oB i)) (sK v2) (sT v2) (mD v2 + 1) (fU v2))) (ty := .int) rfl (by decide +kernel) rfl rfl (Nat.le_of_ble_eq_true rfl) (rfl) ?_
              refine gg_iconst X dX2_make_90 (v := 1) (by decide) ?_
              exact gg_iret X dX2_make_91 hr hk (uA v2 (vp_updL (rG v2) j (oB i)) (sK v2) (sT v2) (mD v2 + 1) (fU v2)) (Or.inl ⟨j, k, a, v, ⟨hj, rfl, hk2, rfl, ha, rfl⟩, hwd, Or.inl ⟨b01' h_30 c_33, rfl, i, v2, by rw [← e1]; exact hp, by rw [p9, e1, p12, e4]⟩⟩) rfl (Nat.le_of_ble_eq_true rfl) (Nat.le_of_ble_eq_true rfl)
            · exact absurd (c64n.symm.trans ((lg_cmp_eq _ _).mp c_64).symm) (nO_oB hi32)
        · refine gg_iconst X dX2_make_24 (v := (-1)) (by decide) ?_
          exact gg_iret X dX2_make_25 hr hk u (Or.inr ⟨fun ⟨j', k', a', g1, g2, g3, g4, g5, g6⟩ => c_21 (by rw [g4]; exact nI_le g3 (by omega)), rfl, rfl⟩) rfl (Nat.le_of_ble_eq_true rfl) (Nat.le_of_ble_eq_true rfl)
set_option maxHeartbeats 4000000 in
set_option maxRecDepth 100000 in
theorem k_count (l : Launch) (D : va_G) (F : CF) (u : CS) (hc : cOk F u) (q : Int32) : mG l yX2_count wX2_count ({ frames := 4, cells := 0, slots := 0, locals := 89 }) D vwCl (cT F) [.ref (kH F), .int q] (cW F u) (qI D vwCl (fun (x : Int32) (w : CS) => cpCount u q x w) (cW F)) := by
  refine gg_met (cc := cX2_count) (nL := 2) (ret := (some .int)) (lv := [(0, .ref (kH F)), (1, .int q)]) (by decide) rfl rfl (Nat.le_of_ble_eq_true rfl) ?_
  intro p_ e_ s_ m_ bl_ me_ cc_ A_ X hr hk hnm
  refine gg_iload_n X dX2_count_0 rfl 1 rfl ?_
  have hsw := id dX2_count_1
  by_cases n0 : q = 0
  · subst n0
    refine gg_tableIn (tgt := 36) X dX2_count_1 (by decide) (by decide) (by rfl) (by decide) ?_
    refine gg_aload_n X dX2_count_36 rfl 0 rfl ?_
    refine gc_v X (gr_V (q0 := 0) X dX2_count_37 X.2.2.2.2.2.1 (k_walk l D F u hc) (cwV 0 X.2.2.2.2.1 (gdV (al 56 rfl) (al 57 rfl) (al 232 rfl) (al 1 rfl) (al 58 rfl)) rfl rfl rfl (by decide +kernel) ⟨Nat.le_of_ble_eq_true rfl, Nat.le_of_ble_eq_true rfl⟩) rfl rfl rfl rfl rfl (Nat.le_of_ble_eq_true rfl) ⟨Nat.le_of_ble_eq_true rfl, Nat.le_of_ble_eq_true rfl⟩) (fun v hv => ?_)
    refine gg_aload_n X dX2_count_40 rfl 0 rfl ?_
    refine gg_get X dX2_count_41 imX2 0 rfl rfl 3 (by decide) (am 36 rfl) rfl ?_
    refine gg_getN (host := "SliceHeap") X dX2_count_44 imX0 3 rfl rfl 3 (by decide) (X.2.2.2.2.2.2.2.1 _ (nw 2 rfl)) rfl ?_
    exact gg_iret X dX2_count_47 hr hk v (Or.inl ⟨rfl, hv, rfl⟩) rfl (Nat.le_of_ble_eq_true rfl) (Nat.le_of_ble_eq_true rfl)
  by_cases n1 : q = 1
  · subst n1
    refine gg_tableIn (tgt := 48) X dX2_count_1 (by decide) (by decide) (by rfl) (by decide) ?_
    refine gg_aload_n X dX2_count_48 rfl 0 rfl ?_
    refine gc_v X (gr_V (q0 := 0) X dX2_count_49 X.2.2.2.2.2.1 (k_walk l D F u hc) (cwV 0 X.2.2.2.2.1 (gdV (al 56 rfl) (al 57 rfl) (al 232 rfl) (al 1 rfl) (al 58 rfl)) rfl rfl rfl (by decide +kernel) ⟨Nat.le_of_ble_eq_true rfl, Nat.le_of_ble_eq_true rfl⟩) rfl rfl rfl rfl rfl (Nat.le_of_ble_eq_true rfl) ⟨Nat.le_of_ble_eq_true rfl, Nat.le_of_ble_eq_true rfl⟩) (fun v hv => ?_)
    refine gg_aload_n X dX2_count_52 rfl 0 rfl ?_
    refine gg_get X dX2_count_53 imX2 0 rfl rfl 3 (by decide) (am 36 rfl) rfl ?_
    refine gg_getN (host := "SliceHeap") X dX2_count_56 imX0 3 rfl rfl 2 (by decide) (X.2.2.2.2.2.2.2.1 _ (nw 1 rfl)) rfl ?_
    exact gg_iret X dX2_count_59 hr hk v (Or.inr (Or.inl ⟨rfl, hv, rfl⟩)) rfl (Nat.le_of_ble_eq_true rfl) (Nat.le_of_ble_eq_true rfl)
  by_cases n2 : q = 2
  · subst n2
    refine gg_tableIn (tgt := 60) X dX2_count_1 (by decide) (by decide) (by rfl) (by decide) ?_
    refine gg_aload_n X dX2_count_60 rfl 0 rfl ?_
    refine gg_get X dX2_count_61 imX2 0 rfl rfl 4 (by decide) (am 37 rfl) rfl ?_
    exact gg_iret X dX2_count_64 hr hk u (Or.inr (Or.inr ⟨rfl, Or.inl ⟨rfl, rfl⟩⟩)) rfl (Nat.le_of_ble_eq_true rfl) (Nat.le_of_ble_eq_true rfl)
  by_cases n3 : q = 3
  · subst n3
    refine gg_tableIn (tgt := 65) X dX2_count_1 (by decide) (by decide) (by rfl) (by decide) ?_
    refine gg_aload_n X dX2_count_65 rfl 0 rfl ?_
    refine gg_get X dX2_count_66 imX2 0 rfl rfl 5 (by decide) (am 38 rfl) rfl ?_
    exact gg_iret X dX2_count_69 hr hk u (Or.inr (Or.inr ⟨rfl, Or.inr (Or.inl ⟨rfl, rfl⟩)⟩)) rfl (Nat.le_of_ble_eq_true rfl) (Nat.le_of_ble_eq_true rfl)
  by_cases n4 : q = 4
  · subst n4
    refine gg_tableIn (tgt := 70) X dX2_count_1 (by decide) (by decide) (by rfl) (by decide) ?_
    refine gg_aload_n X dX2_count_70 rfl 0 rfl ?_
    refine gg_get X dX2_count_71 imX2 0 rfl rfl 6 (by decide) (am 39 rfl) rfl ?_
    exact gg_iret X dX2_count_74 hr hk u (Or.inr (Or.inr ⟨rfl, Or.inr (Or.inr (Or.inl ⟨rfl, rfl⟩))⟩)) rfl (Nat.le_of_ble_eq_true rfl) (Nat.le_of_ble_eq_true rfl)
  refine gg_tableOut (tgt := 75) X dX2_count_1 (by
    have hcases : ∀ z : Int32, (¬ z = 0 ∧ ¬ z = 1 ∧ ¬ z = 2 ∧ ¬ z = 3 ∧ ¬ z = 4) → (z.toInt < 0 ∨ 4 < z.toInt) := sw4
    exact hcases _ ⟨n0, n1, n2, n3, n4⟩) (by decide) ?_
  refine gg_iconst X dX2_count_75 (v := (-1)) (by decide) ?_
  exact gg_iret X dX2_count_76 hr hk u (Or.inr (Or.inr ⟨rfl, Or.inr (Or.inr (Or.inr ⟨n0, n1, n2, n3, n4, rfl⟩))⟩)) rfl (Nat.le_of_ble_eq_true rfl) (Nat.le_of_ble_eq_true rfl)
