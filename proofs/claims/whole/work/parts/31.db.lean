set_option maxHeartbeats 4000000 in
set_option maxRecDepth 100000 in
theorem k_numberd (l : Launch) (D : va_G) (G : DF) (t : DS) (r v : Int32) : mG l yX3_number wX3_number ({ frames := 1, cells := 0, slots := 0, locals := 20 }) D vwCl (dT G) [.ref (dH G), .int r, .int v] (dW G t) (qI D vwCl (fun (x : Int32) (w : DS) => dpNum t r v x w) (dW G)) := by
  refine gg_met (cc := cX3_number) (nL := 3) (ret := (some .boolean)) (lv := [(0, .ref (dH G)), (1, .int r), (2, .int v)]) (by decide) rfl rfl (Nat.le_of_ble_eq_true rfl) ?_
  intro p_ e_ s_ m_ bl_ me_ cc_ A_ X hr hk hnm
  refine gg_iload_n X dX3_number_0 rfl 1 rfl ?_
  refine gc_i X (gr_S X dX3_number_1 X.2.2.2.2.2.1 (k_isRd l D (dT G) (dW G t) r) (cwS 1 X.2.2.2.2.1 (gdS (al 165 rfl) (al 166 rfl) (al 4 rfl) (al 167 rfl)) rfl rfl rfl (by decide +kernel) ⟨Nat.le_of_ble_eq_true rfl, Nat.le_of_ble_eq_true rfl⟩) rfl rfl (Nat.le_of_ble_eq_true rfl) ⟨Nat.le_of_ble_eq_true rfl, Nat.le_of_ble_eq_true rfl⟩) (fun r_1 w_1 h_1 => ?_)
  refine gg_if_ne (tgt := 9) X dX3_number_4 (by decide) (fun c_4 => ?_) (fun c_4 => ?_)
  · obtain ⟨j, hj, rfl⟩ := b01' h_1 c_4
    refine gg_aload_n X dX3_number_9 rfl 0 rfl ?_
    refine gg_get X dX3_number_10 imX3 0 rfl rfl 1 (by decide) (am 144 rfl) rfl ?_
    refine gg_iload_n X dX3_number_13 rfl 1 rfl ?_
    refine gg_iconst X dX3_number_14 (v := 1) (by decide) ?_
    refine gg_bast X dX3_number_15 1 0 rfl rfl j rfl (by omega) (by decide) (by decide) (ws' := dW G (wV t (upd (gK t) j 1) (gV t))) rfl ?_
    refine gg_aload_n X dX3_number_16 rfl 0 rfl ?_
    refine gg_get X dX3_number_17 imX3 0 rfl rfl 2 (by decide) (am 145 rfl) rfl ?_
    refine gg_iload_n X dX3_number_20 rfl 1 rfl ?_
    refine gg_iload_n X dX3_number_21 rfl 2 rfl ?_
    refine gg_iast X dX3_number_22 2 1 rfl rfl j rfl (by omega) (by decide) (ws' := dW G (wV t (upd (gK t) j 1) (upd (gV t) j v))) rfl ?_
    refine gg_iconst X dX3_number_23 (v := 1) (by decide) ?_
    exact gg_zret X dX3_number_24 hr hk rfl (wV t (upd (gK t) j 1) (upd (gV t) j v)) (Or.inl ⟨j, hj, rfl, rfl, rfl⟩) rfl (Nat.le_of_ble_eq_true rfl) (Nat.le_of_ble_eq_true rfl)
  · refine gg_iconst X dX3_number_7 (v := 0) (by decide) ?_
    exact gg_zret X dX3_number_8 hr hk rfl t (Or.inr ⟨b01 h_1 c_4, rfl, rfl⟩) rfl (Nat.le_of_ble_eq_true rfl) (Nat.le_of_ble_eq_true rfl)
set_option maxHeartbeats 4000000 in
set_option maxRecDepth 100000 in
theorem k_copyd (l : Launch) (D : va_G) (G : DF) (t : DS) (hk0 : dOk t) (r s : Int32) : mG l yX3_copy wX3_copy ({ frames := 1, cells := 0, slots := 0, locals := 22 }) D vwCl (dT G) [.ref (dH G), .int r, .int s] (dW G t) (qI D vwCl (fun (x : Int32) (w : DS) => dpCopy t r s x w) (dW G)) := by
  refine gg_met (cc := cX3_copy) (nL := 3) (ret := (some .boolean)) (lv := [(0, .ref (dH G)), (1, .int r), (2, .int s)]) (by decide) rfl rfl (Nat.le_of_ble_eq_true rfl) ?_
  intro p_ e_ s_ m_ bl_ me_ cc_ A_ X hr hk hnm
  refine gg_iload_n X dX3_copy_0 rfl 1 rfl ?_
  refine gc_i X (gr_S X dX3_copy_1 X.2.2.2.2.2.1 (k_isRd l D (dT G) (dW G t) r) (cwS 1 X.2.2.2.2.1 (gdS (al 165 rfl) (al 166 rfl) (al 4 rfl) (al 167 rfl)) rfl rfl rfl (by decide +kernel) ⟨Nat.le_of_ble_eq_true rfl, Nat.le_of_ble_eq_true rfl⟩) rfl rfl (Nat.le_of_ble_eq_true rfl) ⟨Nat.le_of_ble_eq_true rfl, Nat.le_of_ble_eq_true rfl⟩) (fun r_1 w_1 h_1 => ?_)
  refine gg_if_eq (tgt := 19) X dX3_copy_4 (by decide) (fun c_4 => ?_) (fun c_4 => ?_)
  · refine gg_iconst X dX3_copy_19 (v := 0) (by decide) ?_
    exact gg_zret X dX3_copy_20 hr hk rfl t (Or.inr ⟨Or.inl (b01 h_1 c_4), rfl, rfl⟩) rfl (Nat.le_of_ble_eq_true rfl) (Nat.le_of_ble_eq_true rfl)
  · obtain ⟨j, hj, rfl⟩ := b01' h_1 c_4
    refine gg_iload_n X dX3_copy_7 rfl 2 rfl ?_
    refine gg_iconst X dX3_copy_8 (v := (-1)) (by decide) ?_
    refine gg_icmp_eq (tgt := 21) X dX3_copy_9 (by decide) (fun c_9 => ?_) (fun c_9 => ?_)
    · refine gg_iload_n X dX3_copy_21 rfl 2 rfl ?_
      refine gg_iconst X dX3_copy_22 (v := (-1)) (by decide) ?_
      refine gg_icmp_ne (tgt := 34) X dX3_copy_23 (by decide) (fun c_23 => ?_) (fun c_23 => ?_)
      · exact absurd c_9 c_23
      · refine gg_aload_n X dX3_copy_26 rfl 0 rfl ?_
        refine gg_iload_n X dX3_copy_27 rfl 1 rfl ?_
        refine gc_v X (gr_V (q0 := 0) X dX3_copy_28 X.2.2.2.2.2.1 (k_empty l D G t j (by omega)) (cwV 1 X.2.2.2.2.1 (gdV (al 195 rfl) (al 196 rfl) (al 250 rfl) (al 4 rfl) (al 197 rfl)) rfl rfl rfl (by decide +kernel) ⟨Nat.le_of_ble_eq_true rfl, Nat.le_of_ble_eq_true rfl⟩) rfl rfl rfl rfl rfl (Nat.le_of_ble_eq_true rfl) ⟨Nat.le_of_ble_eq_true rfl, Nat.le_of_ble_eq_true rfl⟩) (fun w_28 h_28 => ?_)
        rw [h_28]
        refine gg_goto (tgt := 40) X dX3_copy_31 (by decide) ?_
        refine gg_iconst X dX3_copy_40 (v := 1) (by decide) ?_
        exact gg_zret X dX3_copy_41 hr hk rfl (wV t (upd (gK t) j 0) (upd (gV t) j 0)) (Or.inl ⟨j, hj, rfl, rfl, Or.inl ⟨c_23, rfl⟩⟩) rfl (Nat.le_of_ble_eq_true rfl) (Nat.le_of_ble_eq_true rfl)
    · refine gg_iload_n X dX3_copy_12 rfl 2 rfl ?_
      refine gc_i X (gr_S X dX3_copy_13 X.2.2.2.2.2.1 (k_isRd l D (dT G) (dW G t) s) (cwS 1 X.2.2.2.2.1 (gdS (al 165 rfl) (al 166 rfl) (al 4 rfl) (al 167 rfl)) rfl rfl rfl (by decide +kernel) ⟨Nat.le_of_ble_eq_true rfl, Nat.le_of_ble_eq_true rfl⟩) rfl rfl (Nat.le_of_ble_eq_true rfl) ⟨Nat.le_of_ble_eq_true rfl, Nat.le_of_ble_eq_true rfl⟩) (fun r_13 w_13 h_13 => ?_)
      refine gg_if_ne (tgt := 21) X dX3_copy_16 (by decide) (fun c_16 => ?_) (fun c_16 => ?_)
      · refine gg_iload_n X dX3_copy_21 rfl 2 rfl ?_
        refine gg_iconst X dX3_copy_22 (v := (-1)) (by decide) ?_
        refine gg_icmp_ne (tgt := 34) X dX3_copy_23 (by decide) (fun c_23 => ?_) (fun c_23 => ?_)
        · obtain ⟨k, hk2, rfl⟩ := b01' h_13 c_16
          refine gg_aload_n X dX3_copy_34 rfl 0 rfl ?_
          refine gg_iload_n X dX3_copy_35 rfl 1 rfl ?_
          refine gg_iload_n X dX3_copy_36 rfl 2 rfl ?_
          refine gc_v X (gr_V (q0 := 0) X dX3_copy_37 X.2.2.2.2.2.1 (k_move l D G t j k (by omega) (by omega) (nar_k hk0 (Or.inl (by omega)))) (cwV 2 X.2.2.2.2.1 (gdV (al 183 rfl) (al 184 rfl) (al 248 rfl) (al 4 rfl) (al 185 rfl)) rfl rfl rfl (by decide +kernel) ⟨Nat.le_of_ble_eq_true rfl, Nat.le_of_ble_eq_true rfl⟩) rfl rfl rfl rfl rfl (Nat.le_of_ble_eq_true rfl) ⟨Nat.le_of_ble_eq_true rfl, Nat.le_of_ble_eq_true rfl⟩) (fun w_37 h_37 => ?_)
          rw [h_37]
          refine gg_iconst X dX3_copy_40 (v := 1) (by decide) ?_
          exact gg_zret X dX3_copy_41 hr hk rfl (wV t (upd (gK t) j (gK t k)) (upd (gV t) j (gV t k))) (Or.inl ⟨j, hj, rfl, rfl, Or.inr ⟨c_23, k, hk2, rfl, rfl⟩⟩) rfl (Nat.le_of_ble_eq_true rfl) (Nat.le_of_ble_eq_true rfl)
        · exact absurd c_23 c_9
      · refine gg_iconst X dX3_copy_19 (v := 0) (by decide) ?_
        exact gg_zret X dX3_copy_20 hr hk rfl t (Or.inr ⟨Or.inr ⟨c_9, b01 h_13 c_16⟩, rfl, rfl⟩) rfl (Nat.le_of_ble_eq_true rfl) (Nat.le_of_ble_eq_true rfl)
set_option maxHeartbeats 4000000 in
set_option maxRecDepth 100000 in
theorem k_hasValued (l : Launch) (D : va_G) (G : DF) (t : DS) (hk0 : dOk t) (r k : Int32) : mG l yX3_hasValue wX3_hasValue ({ frames := 2, cells := 0, slots := 0, locals := 41 }) D vwCl (dT G) [.ref (dH G), .int r, .int k] (dW G t) (qI D vwCl (fun (x : Int32) (w : DS) => w = t ∧ (((∃ j o q, j < 10 ∧ r = nI j ∧ gK t j = 2 ∧ o < gM t ∧ gV t j = nI o ∧ q < gS t o ∧ k = nI q) ∧ x = 1) ∨ (¬ (∃ j o q, j < 10 ∧ r = nI j ∧ gK t j = 2 ∧ o < gM t ∧ gV t j = nI o ∧ q < gS t o ∧ k = nI q) ∧ x = 0))) (dW G)) := by
  refine gg_met (cc := cX3_hasValue) (nL := 3) (ret := (some .boolean)) (lv := [(0, .ref (dH G)), (1, .int r), (2, .int k)]) (by decide) rfl rfl (Nat.le_of_ble_eq_true rfl) ?_
  intro p_ e_ s_ m_ bl_ me_ cc_ A_ X hr hk hnm
  have hm := hk0.2.1
  refine gg_aload_n X dX3_hasValue_0 rfl 0 rfl ?_
  refine gg_iload_n X dX3_hasValue_1 rfl 1 rfl ?_
  refine gc_i X (gr_V (q0 := 0) X dX3_hasValue_2 X.2.2.2.2.2.1 (k_hasObject l D G t hk0 r) (cwV 1 X.2.2.2.2.1 (gdV (al 189 rfl) (al 190 rfl) (al 249 rfl) (al 4 rfl) (al 191 rfl)) rfl rfl rfl (by decide +kernel) ⟨Nat.le_of_ble_eq_true rfl, Nat.le_of_ble_eq_true rfl⟩) rfl rfl rfl rfl rfl (Nat.le_of_ble_eq_true rfl) ⟨Nat.le_of_ble_eq_true rfl, Nat.le_of_ble_eq_true rfl⟩) (fun r_2 w_2 h_2 => ?_)
  obtain ⟨ew, h_2⟩ := h_2
  rw [ew]
  refine gg_if_eq (tgt := 31) X dX3_hasValue_5 (by decide) (fun c_5 => ?_) (fun c_5 => ?_)
  · refine gg_iconst X dX3_hasValue_31 (v := 0) (by decide) ?_
    exact gg_zret X dX3_hasValue_32 hr hk rfl t (⟨rfl, Or.inr ⟨fun ⟨j, o, q, h1, h2, h3, h4, h5, _⟩ => b01 h_2 c_5 ⟨j, o, h1, h2, h3, h4, h5⟩, rfl⟩⟩) rfl (Nat.le_of_ble_eq_true rfl) (Nat.le_of_ble_eq_true rfl)
  · obtain ⟨j, o, hj, rfl, hk2, ho, hv⟩ := b01' h_2 c_5
    have h20 := hk0.2.2.1 o ho
    refine gg_iload_n X dX3_hasValue_8 rfl 2 rfl ?_
    refine gg_if_lt (tgt := 31) X dX3_hasValue_9 (by decide) (fun c_9 => ?_) (fun c_9 => ?_)
    · refine gg_iconst X dX3_hasValue_31 (v := 0) (by decide) ?_
      exact gg_zret X dX3_hasValue_32 hr hk rfl t (⟨rfl, Or.inr ⟨fun ⟨j', o', q, h1, h2, h3, h4, h5, h6, h7⟩ => by
          have := hk0.2.2.1 o' h4
          exact ix_no (n := gS t o') (by omega) (Or.inl c_9) q h6 h7, rfl⟩⟩) rfl (Nat.le_of_ble_eq_true rfl) (Nat.le_of_ble_eq_true rfl)
    · refine gg_iload_n X dX3_hasValue_12 rfl 2 rfl ?_
      refine gg_aload_n X dX3_hasValue_13 rfl 0 rfl ?_
      refine gg_get X dX3_hasValue_14 imX3 0 rfl rfl 5 (by decide) (am 148 rfl) rfl ?_
      refine gg_aload_n X dX3_hasValue_17 rfl 0 rfl ?_
      refine gg_get X dX3_hasValue_18 imX3 0 rfl rfl 2 (by decide) (am 145 rfl) rfl ?_
      refine gg_iload_n X dX3_hasValue_21 rfl 1 rfl ?_
      refine gg_iald X dX3_hasValue_22 2 1 rfl rfl j rfl (by omega) (by decide) ?_
      rw [hv]
      refine gg_iald X dX3_hasValue_23 3 1 rfl rfl o rfl (by omega) (by decide) ?_
      refine gg_icmp_ge (tgt := 31) X dX3_hasValue_24 (by decide) (fun c_24 => ?_) (fun c_24 => ?_)
      · refine gg_iconst X dX3_hasValue_31 (v := 0) (by decide) ?_
        exact gg_zret X dX3_hasValue_32 hr hk rfl t (⟨rfl, Or.inr ⟨fun ⟨j', o', q, h1, h2, h3, h4, h5, h6, h7⟩ => by
            have e1 := r_inj (by omega) (by omega) h2
            subst e1
            have e2 := nI_inj (by omega) (by omega) (hv.symm.trans h5)
            subst e2
            exact ix_no (n := gS t o) (by omega) (Or.inr c_24) q h6 h7, rfl⟩⟩) rfl (Nat.le_of_ble_eq_true rfl) (Nat.le_of_ble_eq_true rfl)
      · refine gg_iconst X dX3_hasValue_27 (v := 1) (by decide) ?_
        refine gg_goto (tgt := 32) X dX3_hasValue_28 (by decide) ?_
        obtain ⟨q, hq, ek⟩ := ix_yes (by omega) c_9 c_24
        exact gg_zret X dX3_hasValue_32 hr hk rfl t (⟨rfl, Or.inl ⟨⟨j, o, q, hj, rfl, hk2, ho, hv, hq, ek⟩, rfl⟩⟩) rfl (Nat.le_of_ble_eq_true rfl) (Nat.le_of_ble_eq_true rfl)
set_option maxHeartbeats 4000000 in
set_option maxRecDepth 100000 in
theorem k_getd (l : Launch) (D : va_G) (G : DF) (t : DS) (hk0 : dOk t) (r s k : Int32) : mG l yX3_get wX3_get ({ frames := 3, cells := 0, slots := 0, locals := 63 }) D vwCl (dT G) [.ref (dH G), .int r, .int s, .int k] (dW G t) (qI D vwCl (fun (x : Int32) (w : DS) => dpGet t r s k x w) (dW G)) := by
  refine gg_met (cc := cX3_get) (nL := 4) (ret := (some .boolean)) (lv := [(0, .ref (dH G)), (1, .int r), (2, .int s), (3, .int k)]) (by decide) rfl rfl (Nat.le_of_ble_eq_true rfl) ?_
  intro p_ e_ s_ m_ bl_ me_ cc_ A_ X hr hk hnm
  have hm := hk0.2.1
  refine gg_iload_n X dX3_get_0 rfl 1 rfl ?_
  refine gc_i X (gr_S X dX3_get_1 X.2.2.2.2.2.1 (k_isRd l D (dT G) (dW G t) r) (cwS 1 X.2.2.2.2.1 (gdS (al 165 rfl) (al 166 rfl) (al 4 rfl) (al 167 rfl)) rfl rfl rfl (by decide +kernel) ⟨Nat.le_of_ble_eq_true rfl, Nat.le_of_ble_eq_true rfl⟩) rfl rfl (Nat.le_of_ble_eq_true rfl) ⟨Nat.le_of_ble_eq_true rfl, Nat.le_of_ble_eq_true rfl⟩) (fun r_1 w_1 h_1 => ?_)
  refine gg_if_eq (tgt := 16) X dX3_get_4 (by decide) (fun c_4 => ?_) (fun c_4 => ?_)
  · refine gg_iconst X dX3_get_16 (v := 0) (by decide) ?_
    exact gg_zret X dX3_get_17 hr hk rfl t (Or.inr ⟨fun ⟨j', a', o', q', g1, g2, _⟩ => b01 h_1 c_4 ⟨j', g1, g2⟩, rfl, rfl⟩) rfl (Nat.le_of_ble_eq_true rfl) (Nat.le_of_ble_eq_true rfl)
  · obtain ⟨b, hb, rfl⟩ := b01' h_1 c_4
    refine gg_aload_n X dX3_get_7 rfl 0 rfl ?_
    refine gg_iload_n X dX3_get_8 rfl 2 rfl ?_
    refine gg_iload_n X dX3_get_9 rfl 3 rfl ?_
    refine gc_i X (gr_V (q0 := 0) X dX3_get_10 X.2.2.2.2.2.1 (k_hasValued l D G t hk0 s k) (cwV 2 X.2.2.2.2.1 (gdV (al 207 rfl) (al 208 rfl) (al 251 rfl) (al 4 rfl) (al 209 rfl)) rfl rfl rfl (by decide +kernel) ⟨Nat.le_of_ble_eq_true rfl, Nat.le_of_ble_eq_true rfl⟩) rfl rfl rfl rfl rfl (Nat.le_of_ble_eq_true rfl) ⟨Nat.le_of_ble_eq_true rfl, Nat.le_of_ble_eq_true rfl⟩) (fun r_10 w_10 h_10 => ?_)
    obtain ⟨ew, h_10⟩ := h_10
    rw [ew]
    refine gg_if_ne (tgt := 18) X dX3_get_13 (by decide) (fun c_13 => ?_) (fun c_13 => ?_)
    · obtain ⟨a, o, q, ha, rfl, hk2, ho, hv, hq, rfl⟩ := b01' h_10 c_13
      have h20 := hk0.2.2.1 o ho
      refine gg_aload_n X dX3_get_18 rfl 0 rfl ?_
      refine gg_iload_n X dX3_get_19 rfl 1 rfl ?_
      refine gg_aload_n X dX3_get_20 rfl 0 rfl ?_
      refine gg_get X dX3_get_21 imX3 0 rfl rfl 2 (by decide) (am 145 rfl) rfl ?_
      refine gg_iload_n X dX3_get_24 rfl 2 rfl ?_
      refine gg_iald X dX3_get_25 2 1 rfl rfl a rfl (by omega) (by decide) ?_
      refine gg_iload_n X dX3_get_26 rfl 3 rfl ?_
      rw [hv]
      refine gc_i X (gr_S X dX3_get_27 X.2.2.2.2.2.1 (k_placeOf l D (dT G) (dW G t) o q) (cwS 2 X.2.2.2.2.1 (gdS (al 180 rfl) (al 181 rfl) (al 4 rfl) (al 182 rfl)) rfl rfl rfl (by decide +kernel) ⟨Nat.le_of_ble_eq_true rfl, Nat.le_of_ble_eq_true rfl⟩) rfl rfl (Nat.le_of_ble_eq_true rfl) ⟨Nat.le_of_ble_eq_true rfl, Nat.le_of_ble_eq_true rfl⟩) (fun r_27 w_27 h_27 => ?_)
      rw [h_27]
      refine gc_v X (gr_V (q0 := 0) X dX3_get_30 X.2.2.2.2.2.1 (k_move l D G t b (pL o q) (by omega) (pL_lt hk0 ho (by omega)) (nar_k hk0 (Or.inr ⟨o, q, ho, hq, rfl⟩))) (cwV 2 X.2.2.2.2.1 (gdV (al 183 rfl) (al 184 rfl) (al 248 rfl) (al 4 rfl) (al 185 rfl)) rfl rfl rfl (by decide +kernel) ⟨Nat.le_of_ble_eq_true rfl, Nat.le_of_ble_eq_true rfl⟩) rfl rfl rfl rfl rfl (Nat.le_of_ble_eq_true rfl) ⟨Nat.le_of_ble_eq_true rfl, Nat.le_of_ble_eq_true rfl⟩) (fun w_30 h_30 => ?_)
      rw [h_30]
      refine gg_iconst X dX3_get_33 (v := 1) (by decide) ?_
      exact gg_zret X dX3_get_34 hr hk rfl (wV t (upd (gK t) b (gK t (pL o q))) (upd (gV t) b (gV t (pL o q)))) (Or.inl ⟨b, a, o, q, ⟨hb, rfl, ha, rfl, hk2, ho, hv, hq, rfl⟩, rfl, rfl⟩) rfl (Nat.le_of_ble_eq_true rfl) (Nat.le_of_ble_eq_true rfl)
    · refine gg_iconst X dX3_get_16 (v := 0) (by decide) ?_
      exact gg_zret X dX3_get_17 hr hk rfl t (Or.inr ⟨fun ⟨j', a', o', q', g1, g2, g3⟩ => b01 h_10 c_13 ⟨a', o', q', g3⟩, rfl, rfl⟩) rfl (Nat.le_of_ble_eq_true rfl) (Nat.le_of_ble_eq_true rfl)
set_option maxHeartbeats 4000000 in
set_option maxRecDepth 100000 in
theorem k_setd (l : Launch) (D : va_G) (G : DF) (t : DS) (hk0 : dOk t) (r k s : Int32) : mG l yX3_set wX3_set ({ frames := 3, cells := 0, slots := 0, locals := 63 }) D vwCl (dT G) [.ref (dH G), .int r, .int k, .int s] (dW G t) (qI D vwCl (fun (x : Int32) (w : DS) => dpSet t r k s x w) (dW G)) := by
  refine gg_met (cc := cX3_set) (nL := 4) (ret := (some .boolean)) (lv := [(0, .ref (dH G)), (1, .int r), (2, .int k), (3, .int s)]) (by decide) rfl rfl (Nat.le_of_ble_eq_true rfl) ?_
  intro p_ e_ s_ m_ bl_ me_ cc_ A_ X hr hk hnm
  have hm := hk0.2.1
  refine gg_iload_n X dX3_set_0 rfl 3 rfl ?_
  refine gc_i X (gr_S X dX3_set_1 X.2.2.2.2.2.1 (k_isRd l D (dT G) (dW G t) s) (cwS 1 X.2.2.2.2.1 (gdS (al 165 rfl) (al 166 rfl) (al 4 rfl) (al 167 rfl)) rfl rfl rfl (by decide +kernel) ⟨Nat.le_of_ble_eq_true rfl, Nat.le_of_ble_eq_true rfl⟩) rfl rfl (Nat.le_of_ble_eq_true rfl) ⟨Nat.le_of_ble_eq_true rfl, Nat.le_of_ble_eq_true rfl⟩) (fun r_1 w_1 h_1 => ?_)
  refine gg_if_eq (tgt := 16) X dX3_set_4 (by decide) (fun c_4 => ?_) (fun c_4 => ?_)
  · refine gg_iconst X dX3_set_16 (v := 0) (by decide) ?_
    exact gg_zret X dX3_set_17 hr hk rfl t (Or.inr ⟨fun ⟨j', a', o', q', g1, g2, _⟩ => b01 h_1 c_4 ⟨j', g1, g2⟩, rfl, rfl⟩) rfl (Nat.le_of_ble_eq_true rfl) (Nat.le_of_ble_eq_true rfl)
  · obtain ⟨b, hb, rfl⟩ := b01' h_1 c_4
    refine gg_aload_n X dX3_set_7 rfl 0 rfl ?_
    refine gg_iload_n X dX3_set_8 rfl 1 rfl ?_
    refine gg_iload_n X dX3_set_9 rfl 2 rfl ?_
    refine gc_i X (gr_V (q0 := 0) X dX3_set_10 X.2.2.2.2.2.1 (k_hasValued l D G t hk0 r k) (cwV 2 X.2.2.2.2.1 (gdV (al 207 rfl) (al 208 rfl) (al 251 rfl) (al 4 rfl) (al 209 rfl)) rfl rfl rfl (by decide +kernel) ⟨Nat.le_of_ble_eq_true rfl, Nat.le_of_ble_eq_true rfl⟩) rfl rfl rfl rfl rfl (Nat.le_of_ble_eq_true rfl) ⟨Nat.le_of_ble_eq_true rfl, Nat.le_of_ble_eq_true rfl⟩) (fun r_10 w_10 h_10 => ?_)
    obtain ⟨ew, h_10⟩ := h_10
    rw [ew]
    refine gg_if_ne (tgt := 18) X dX3_set_13 (by decide) (fun c_13 => ?_) (fun c_13 => ?_)
    · obtain ⟨a, o, q, ha, rfl, hk2, ho, hv, hq, rfl⟩ := b01' h_10 c_13
      have h20 := hk0.2.2.1 o ho
      refine gg_aload_n X dX3_set_18 rfl 0 rfl ?_
      refine gg_aload_n X dX3_set_19 rfl 0 rfl ?_
      refine gg_get X dX3_set_20 imX3 0 rfl rfl 2 (by decide) (am 145 rfl) rfl ?_
      refine gg_iload_n X dX3_set_23 rfl 1 rfl ?_
      refine gg_iald X dX3_set_24 2 1 rfl rfl a rfl (by omega) (by decide) ?_
      refine gg_iload_n X dX3_set_25 rfl 2 rfl ?_
      rw [hv]
      refine gc_i X (gr_S X dX3_set_26 X.2.2.2.2.2.1 (k_placeOf l D (dT G) (dW G t) o q) (cwS 2 X.2.2.2.2.1 (gdS (al 180 rfl) (al 181 rfl) (al 4 rfl) (al 182 rfl)) rfl rfl rfl (by decide +kernel) ⟨Nat.le_of_ble_eq_true rfl, Nat.le_of_ble_eq_true rfl⟩) rfl rfl (Nat.le_of_ble_eq_true rfl) ⟨Nat.le_of_ble_eq_true rfl, Nat.le_of_ble_eq_true rfl⟩) (fun r_26 w_26 h_26 => ?_)
      rw [h_26]
      refine gg_iload_n X dX3_set_29 rfl 3 rfl ?_
      refine gc_v X (gr_V (q0 := 0) X dX3_set_30 X.2.2.2.2.2.1 (k_move l D G t (pL o q) b (pL_lt hk0 ho (by omega)) (by omega) (nar_k hk0 (Or.inl (by omega)))) (cwV 2 X.2.2.2.2.1 (gdV (al 183 rfl) (al 184 rfl) (al 248 rfl) (al 4 rfl) (al 185 rfl)) rfl rfl rfl (by decide +kernel) ⟨Nat.le_of_ble_eq_true rfl, Nat.le_of_ble_eq_true rfl⟩) rfl rfl rfl rfl rfl (Nat.le_of_ble_eq_true rfl) ⟨Nat.le_of_ble_eq_true rfl, Nat.le_of_ble_eq_true rfl⟩) (fun w_30 h_30 => ?_)
      rw [h_30]
      refine gg_iconst X dX3_set_33 (v := 1) (by decide) ?_
      exact gg_zret X dX3_set_34 hr hk rfl (wV t (upd (gK t) (pL o q) (gK t b)) (upd (gV t) (pL o q) (gV t b))) (Or.inl ⟨b, a, o, q, ⟨hb, rfl, ha, rfl, hk2, ho, hv, hq, rfl⟩, rfl, rfl⟩) rfl (Nat.le_of_ble_eq_true rfl) (Nat.le_of_ble_eq_true rfl)
    · refine gg_iconst X dX3_set_16 (v := 0) (by decide) ?_
      exact gg_zret X dX3_set_17 hr hk rfl t (Or.inr ⟨fun ⟨j', a', o', q', g1, g2, g3⟩ => b01 h_10 c_13 ⟨a', o', q', g3⟩, rfl, rfl⟩) rfl (Nat.le_of_ble_eq_true rfl) (Nat.le_of_ble_eq_true rfl)
set_option maxHeartbeats 4000000 in
set_option maxRecDepth 100000 in
theorem k_pushd (l : Launch) (D : va_G) (G : DF) (t : DS) (hk0 : dOk t) (r : Int32) : mG l yX3_push wX3_push ({ frames := 1, cells := 0, slots := 0, locals := 22 }) D vwCl (dT G) [.ref (dH G), .int r] (dW G t) (qI D vwCl (fun (x : Int32) (w : DS) => dpPush t r x w) (dW G)) := by
  refine gg_met (cc := cX3_push) (nL := 2) (ret := (some .int)) (lv := [(0, .ref (dH G)), (1, .int r)]) (by decide) rfl rfl (Nat.le_of_ble_eq_true rfl) ?_
  intro p_ e_ s_ m_ bl_ me_ cc_ A_ X hr hk hnm
  have h50 := hk0.1
  refine gg_iload_n X dX3_push_0 rfl 1 rfl ?_
  refine gc_i X (gr_S X dX3_push_1 X.2.2.2.2.2.1 (k_isRd l D (dT G) (dW G t) r) (cwS 1 X.2.2.2.2.1 (gdS (al 165 rfl) (al 166 rfl) (al 4 rfl) (al 167 rfl)) rfl rfl rfl (by decide +kernel) ⟨Nat.le_of_ble_eq_true rfl, Nat.le_of_ble_eq_true rfl⟩) rfl rfl (Nat.le_of_ble_eq_true rfl) ⟨Nat.le_of_ble_eq_true rfl, Nat.le_of_ble_eq_true rfl⟩) (fun r_1 w_1 h_1 => ?_)
  refine gg_if_eq (tgt := 16) X dX3_push_4 (by decide) (fun c_4 => ?_) (fun c_4 => ?_)
  · refine gg_iconst X dX3_push_16 (v := (-1)) (by decide) ?_
    exact gg_iret X dX3_push_17 hr hk t (Or.inr ⟨fun h => b01 h_1 c_4 h.1, rfl, rfl⟩) rfl (Nat.le_of_ble_eq_true rfl) (Nat.le_of_ble_eq_true rfl)
  · obtain ⟨j, hj, rfl⟩ := b01' h_1 c_4
    refine gg_aload_n X dX3_push_7 rfl 0 rfl ?_
    refine gg_get X dX3_push_8 imX3 0 rfl rfl 3 (by decide) (am 146 rfl) rfl ?_
    refine gg_bipush X dX3_push_11 (v := nI 50) (by decide) ?_
    refine gg_icmp_ne (tgt := 18) X dX3_push_13 (by decide) (fun c_13 => ?_) (fun c_13 => ?_)
    · have h13 : gT t < 50 := by
        have : ¬ gT t = 50 := fun e => c_13 (by rw [e])
        omega
      refine gg_aload_n X dX3_push_18 rfl 0 rfl ?_
      refine gg_bipush X dX3_push_19 (v := nI 10) (by decide) ?_
      refine gg_aload_n X dX3_push_21 rfl 0 rfl ?_
      refine gg_get X dX3_push_22 imX3 0 rfl rfl 3 (by decide) (am 146 rfl) rfl ?_
      refine gg_iadd X dX3_push_25 (nI_add _ _) ?_
      refine gg_iload_n X dX3_push_26 rfl 1 rfl ?_
      refine gc_v X (gr_V (q0 := 0) X dX3_push_27 X.2.2.2.2.2.1 (k_move l D G t (10 + gT t) j (by omega) (by omega) (nar_k hk0 (Or.inl (by omega)))) (cwV 2 X.2.2.2.2.1 (gdV (al 183 rfl) (al 184 rfl) (al 248 rfl) (al 4 rfl) (al 185 rfl)) rfl rfl rfl (by decide +kernel) ⟨Nat.le_of_ble_eq_true rfl, Nat.le_of_ble_eq_true rfl⟩) rfl rfl rfl rfl rfl (Nat.le_of_ble_eq_true rfl) ⟨Nat.le_of_ble_eq_true rfl, Nat.le_of_ble_eq_true rfl⟩) (fun w_27 h_27 => ?_)
      rw [h_27]
      refine gg_aload_n X dX3_push_30 rfl 0 rfl ?_
      refine gg_iload_n X dX3_push_31 rfl 1 rfl ?_
      refine gc_v X (gr_V (q0 := 0) X dX3_push_32 X.2.2.2.2.2.1 (k_empty l D G (wV t (upd (gK t) (10 + gT t) (gK t j)) (upd (gV t) (10 + gT t) (gV t j))) j (by omega)) (cwV 1 X.2.2.2.2.1 (gdV (al 195 rfl) (al 196 rfl) (al 250 rfl) (al 4 rfl) (al 197 rfl)) rfl rfl rfl (by decide +kernel) ⟨Nat.le_of_ble_eq_true rfl, Nat.le_of_ble_eq_true rfl⟩) rfl rfl rfl rfl rfl (Nat.le_of_ble_eq_true rfl) ⟨Nat.le_of_ble_eq_true rfl, Nat.le_of_ble_eq_true rfl⟩) (fun w_32 h_32 => ?_)
      rw [h_32]
      refine gg_aload_n X dX3_push_35 rfl 0 rfl ?_
      refine gg_dup X dX3_push_36 rfl ?_
      refine gg_get X dX3_push_37 imX3 0 rfl rfl 3 (by decide) (am 146 rfl) rfl ?_
      refine gg_iconst X dX3_push_40 (v := 1) (by decide) ?_
      refine gg_iadd X dX3_push_41 (nI_1 _) ?_
      refine gg_put X dX3_push_42 imX3 tyX3 tyX3_ok nmX3 0 rfl rfl 3 (by decide) (am 146 rfl) (ws' := dW G (wT (wV t (upd (upd (gK t) (10 + gT t) (gK t j)) j 0) (upd (upd (gV t) (10 + gT t) (gV t j)) j 0)) (gT t + 1))) (ty := .int) rfl (by decide +kernel) rfl rfl (Nat.le_of_ble_eq_true rfl) (rfl) ?_
      refine gg_aload_n X dX3_push_45 rfl 0 rfl ?_
      refine gg_get X dX3_push_46 imX3 0 rfl rfl 3 (by decide) (am 146 rfl) rfl ?_
      exact gg_iret X dX3_push_49 hr hk (wT (wV t (upd (upd (gK t) (10 + gT t) (gK t j)) j 0) (upd (upd (gV t) (10 + gT t) (gV t j)) j 0)) (gT t + 1)) (Or.inl ⟨j, hj, rfl, h13, rfl, rfl⟩) rfl (Nat.le_of_ble_eq_true rfl) (Nat.le_of_ble_eq_true rfl)
    · refine gg_iconst X dX3_push_16 (v := (-1)) (by decide) ?_
      exact gg_iret X dX3_push_17 hr hk t (Or.inr ⟨fun h => absurd ((nI_eq (a := gT t) (b := 50) (by omega) (by omega)).mp c_13) (by have := h.2; omega), rfl, rfl⟩) rfl (Nat.le_of_ble_eq_true rfl) (Nat.le_of_ble_eq_true rfl)
set_option maxHeartbeats 4000000 in
set_option maxRecDepth 100000 in
theorem k_popd (l : Launch) (D : va_G) (G : DF) (t : DS) (hk0 : dOk t) (r : Int32) : mG l yX3_pop wX3_pop ({ frames := 1, cells := 0, slots := 0, locals := 22 }) D vwCl (dT G) [.ref (dH G), .int r] (dW G t) (qI D vwCl (fun (x : Int32) (w : DS) => dpPop t r x w) (dW G)) := by
  refine gg_met (cc := cX3_pop) (nL := 2) (ret := (some .int)) (lv := [(0, .ref (dH G)), (1, .int r)]) (by decide) rfl rfl (Nat.le_of_ble_eq_true rfl) ?_
  intro p_ e_ s_ m_ bl_ me_ cc_ A_ X hr hk hnm
  have h50 := hk0.1
  refine gg_iload_n X dX3_pop_0 rfl 1 rfl ?_
  refine gc_i X (gr_S X dX3_pop_1 X.2.2.2.2.2.1 (k_isRd l D (dT G) (dW G t) r) (cwS 1 X.2.2.2.2.1 (gdS (al 165 rfl) (al 166 rfl) (al 4 rfl) (al 167 rfl)) rfl rfl rfl (by decide +kernel) ⟨Nat.le_of_ble_eq_true rfl, Nat.le_of_ble_eq_true rfl⟩) rfl rfl (Nat.le_of_ble_eq_true rfl) ⟨Nat.le_of_ble_eq_true rfl, Nat.le_of_ble_eq_true rfl⟩) (fun r_1 w_1 h_1 => ?_)
  refine gg_if_eq (tgt := 14) X dX3_pop_4 (by decide) (fun c_4 => ?_) (fun c_4 => ?_)
  · refine gg_iconst X dX3_pop_14 (v := (-1)) (by decide) ?_
    exact gg_iret X dX3_pop_15 hr hk t (Or.inr ⟨fun h => b01 h_1 c_4 h.1, rfl, rfl⟩) rfl (Nat.le_of_ble_eq_true rfl) (Nat.le_of_ble_eq_true rfl)
  · obtain ⟨j, hj, rfl⟩ := b01' h_1 c_4
    refine gg_aload_n X dX3_pop_7 rfl 0 rfl ?_
    refine gg_get X dX3_pop_8 imX3 0 rfl rfl 3 (by decide) (am 146 rfl) rfl ?_
    refine gg_if_ne (tgt := 16) X dX3_pop_11 (by decide) (fun c_11 => ?_) (fun c_11 => ?_)
    · obtain ⟨n, hn⟩ : ∃ n, gT t = n + 1 := ⟨gT t - 1, by
        have : ¬ gT t = 0 := fun e => c_11 (by rw [e]; rfl)
        omega⟩
      refine gg_aload_n X dX3_pop_16 rfl 0 rfl ?_
      refine gg_dup X dX3_pop_17 rfl ?_
      refine gg_get X dX3_pop_18 imX3 0 rfl rfl 3 (by decide) (am 146 rfl) rfl ?_
      refine gg_iconst X dX3_pop_21 (v := 1) (by decide) ?_
      refine gg_isub X dX3_pop_22 (v := nI n) (by rw [hn]; exact nI_pred n) ?_
      refine gg_put X dX3_pop_23 imX3 tyX3 tyX3_ok nmX3 0 rfl rfl 3 (by decide) (am 146 rfl) (ws' := dW G (wT t n)) (ty := .int) rfl (by decide +kernel) rfl rfl (Nat.le_of_ble_eq_true rfl) (rfl) ?_
      refine gg_aload_n X dX3_pop_26 rfl 0 rfl ?_
      refine gg_iload_n X dX3_pop_27 rfl 1 rfl ?_
      refine gg_bipush X dX3_pop_28 (v := nI 10) (by decide) ?_
      refine gg_aload_n X dX3_pop_30 rfl 0 rfl ?_
      refine gg_get X dX3_pop_31 imX3 0 rfl rfl 3 (by decide) (am 146 rfl) rfl ?_
      refine gg_iadd X dX3_pop_34 (nI_add _ _) ?_
      refine gc_v X (gr_V (q0 := 0) X dX3_pop_35 X.2.2.2.2.2.1 (k_move l D G (wT t n) j (10 + n) (by omega) (by omega) (nar_k (t := t) (p := 10 + n) hk0 (Or.inl (by omega)))) (cwV 2 X.2.2.2.2.1 (gdV (al 183 rfl) (al 184 rfl) (al 248 rfl) (al 4 rfl) (al 185 rfl)) rfl rfl rfl (by decide +kernel) ⟨Nat.le_of_ble_eq_true rfl, Nat.le_of_ble_eq_true rfl⟩) rfl rfl rfl rfl rfl (Nat.le_of_ble_eq_true rfl) ⟨Nat.le_of_ble_eq_true rfl, Nat.le_of_ble_eq_true rfl⟩) (fun w_35 h_35 => ?_)
      rw [h_35]
      refine gg_aload_n X dX3_pop_38 rfl 0 rfl ?_
      refine gg_get X dX3_pop_39 imX3 0 rfl rfl 3 (by decide) (am 146 rfl) rfl ?_
      exact gg_iret X dX3_pop_42 hr hk (wV (wT t n) (upd (gK t) j (gK t (10 + n))) (upd (gV t) j (gV t (10 + n)))) (Or.inl ⟨j, n, hj, rfl, hn, rfl, rfl⟩) rfl (Nat.le_of_ble_eq_true rfl) (Nat.le_of_ble_eq_true rfl)
    · refine gg_iconst X dX3_pop_14 (v := (-1)) (by decide) ?_
      exact gg_iret X dX3_pop_15 hr hk t (Or.inr ⟨fun h => absurd ((nI_eq (a := gT t) (b := 0) (by omega) (by omega)).mp c_11) (by have := h.2; omega), rfl, rfl⟩) rfl (Nat.le_of_ble_eq_true rfl) (Nat.le_of_ble_eq_true rfl)
set_option maxHeartbeats 4000000 in
set_option maxRecDepth 100000 in
theorem k_shrinkd (l : Launch) (D : va_G) (G : DF) (t : DS) (hk0 : dOk t) (r : Int32) : mG l yX3_shrink wX3_shrink ({ frames := 2, cells := 0, slots := 0, locals := 41 }) D vwCl (dT G) [.ref (dH G), .int r] (dW G t) (qI D vwCl (fun (x : Int32) (w : DS) => dpShr t r x w) (dW G)) := by
  refine gg_met (cc := cX3_shrink) (nL := 3) (ret := (some .int)) (lv := [(0, .ref (dH G)), (1, .int r)]) (by decide) rfl rfl (Nat.le_of_ble_eq_true rfl) ?_
  intro p_ e_ s_ m_ bl_ me_ cc_ A_ X hr hk hnm
  have hm := hk0.2.1
  refine gg_aload_n X dX3_shrink_0 rfl 0 rfl ?_
  refine gg_iload_n X dX3_shrink_1 rfl 1 rfl ?_
  refine gc_i X (gr_V (q0 := 0) X dX3_shrink_2 X.2.2.2.2.2.1 (k_hasObject l D G t hk0 r) (cwV 1 X.2.2.2.2.1 (gdV (al 189 rfl) (al 190 rfl) (al 249 rfl) (al 4 rfl) (al 191 rfl)) rfl rfl rfl (by decide +kernel) ⟨Nat.le_of_ble_eq_true rfl, Nat.le_of_ble_eq_true rfl⟩) rfl rfl rfl rfl rfl (Nat.le_of_ble_eq_true rfl) ⟨Nat.le_of_ble_eq_true rfl, Nat.le_of_ble_eq_true rfl⟩) (fun r_2 w_2 h_2 => ?_)
  obtain ⟨ew, h_2⟩ := h_2
  rw [ew]
  refine gg_if_eq (tgt := 22) X dX3_shrink_5 (by decide) (fun c_5 => ?_) (fun c_5 => ?_)
  · refine gg_iconst X dX3_shrink_22 (v := (-1)) (by decide) ?_
    exact gg_iret X dX3_shrink_23 hr hk t (Or.inr ⟨fun ⟨j', o', n', g1, g2, g3, g4, g5, g6⟩ => b01 h_2 c_5 ⟨j', o', g1, g2, g3, g4, g5⟩, rfl, rfl⟩) rfl (Nat.le_of_ble_eq_true rfl) (Nat.le_of_ble_eq_true rfl)
  · obtain ⟨j, o, hj, rfl, hk2, ho, hv⟩ := b01' h_2 c_5
    have h20 := hk0.2.2.1 o ho
    refine gg_aload_n X dX3_shrink_8 rfl 0 rfl ?_
    refine gg_get X dX3_shrink_9 imX3 0 rfl rfl 5 (by decide) (am 148 rfl) rfl ?_
    refine gg_aload_n X dX3_shrink_12 rfl 0 rfl ?_
    refine gg_get X dX3_shrink_13 imX3 0 rfl rfl 2 (by decide) (am 145 rfl) rfl ?_
    refine gg_iload_n X dX3_shrink_16 rfl 1 rfl ?_
    refine gg_iald X dX3_shrink_17 2 1 rfl rfl j rfl (by omega) (by decide) ?_
    rw [hv]
    refine gg_iald X dX3_shrink_18 3 1 rfl rfl o rfl (by omega) (by decide) ?_
    refine gg_if_ne (tgt := 24) X dX3_shrink_19 (by decide) (fun c_19 => ?_) (fun c_19 => ?_)
    · obtain ⟨n, hn⟩ : ∃ n, gS t o = n + 1 := ⟨gS t o - 1, by
        have : ¬ gS t o = 0 := fun e => c_19 (by rw [e]; rfl)
        omega⟩
      refine gg_aload_n X dX3_shrink_24 rfl 0 rfl ?_
      refine gg_get X dX3_shrink_25 imX3 0 rfl rfl 2 (by decide) (am 145 rfl) rfl ?_
      refine gg_iload_n X dX3_shrink_28 rfl 1 rfl ?_
      refine gg_iald X dX3_shrink_29 2 1 rfl rfl j rfl (by omega) (by decide) ?_
      rw [hv]
      refine gg_istore_n X dX3_shrink_30 rfl (by decide) rfl ?_
      refine gg_aload_n X dX3_shrink_31 rfl 1 rfl ?_
      refine gg_get X dX3_shrink_32 imX3 0 rfl rfl 5 (by decide) (am 148 rfl) rfl ?_
      refine gg_iload_n X dX3_shrink_35 rfl 0 rfl ?_
      refine gg_dup2 X dX3_shrink_36 rfl rfl ?_
      refine gg_iald X dX3_shrink_37 3 1 rfl rfl o rfl (by omega) (by decide) ?_
      refine gg_iconst X dX3_shrink_38 (v := 1) (by decide) ?_
      refine gg_isub X dX3_shrink_39 (v := nI n) (by rw [hn]; exact nI_pred n) ?_
      refine gg_iast X dX3_shrink_40 3 1 rfl rfl o rfl (by omega) (by decide) (ws' := dW G (wS t (va_up (gS t) o n))) (by rw [upd_nI]; rfl) ?_
      refine gg_aload_n X dX3_shrink_41 rfl 1 rfl ?_
      refine gg_iload_n X dX3_shrink_42 rfl 0 rfl ?_
      refine gg_aload_n X dX3_shrink_43 rfl 1 rfl ?_
      refine gg_get X dX3_shrink_44 imX3 0 rfl rfl 5 (by decide) (am 148 rfl) rfl ?_
      refine gg_iload_n X dX3_shrink_47 rfl 0 rfl ?_
      refine gg_iald X dX3_shrink_48 3 1 rfl rfl o rfl (by omega) (by decide) ?_
      refine gg_st (st' := [.int (nI n), .int (nI o), .ref (dH G)]) (by show [Value.int (nI (va_up (gS t) o n o)), Value.int (nI o), Value.ref (dH G)] = _; rw [va_up_self]) ?_
      refine gc_i X (gr_S X dX3_shrink_49 X.2.2.2.2.2.1 (k_placeOf l D (dT G) (dW G (wS t (va_up (gS t) o n))) o n) (cwS 2 X.2.2.2.2.1 (gdS (al 180 rfl) (al 181 rfl) (al 4 rfl) (al 182 rfl)) rfl rfl rfl (by decide +kernel) ⟨Nat.le_of_ble_eq_true rfl, Nat.le_of_ble_eq_true rfl⟩) rfl rfl (Nat.le_of_ble_eq_true rfl) ⟨Nat.le_of_ble_eq_true rfl, Nat.le_of_ble_eq_true rfl⟩) (fun r_49 w_49 h_49 => ?_)
      rw [h_49]
      refine gc_v X (gr_V (q0 := 0) X dX3_shrink_52 X.2.2.2.2.2.1 (k_empty l D G (wS t (va_up (gS t) o n)) (pL o n) (pL_lt hk0 ho (by omega))) (cwV 1 X.2.2.2.2.1 (gdV (al 195 rfl) (al 196 rfl) (al 250 rfl) (al 4 rfl) (al 197 rfl)) rfl rfl rfl (by decide +kernel) ⟨Nat.le_of_ble_eq_true rfl, Nat.le_of_ble_eq_true rfl⟩) rfl rfl rfl rfl rfl (Nat.le_of_ble_eq_true rfl) ⟨Nat.le_of_ble_eq_true rfl, Nat.le_of_ble_eq_true rfl⟩) (fun w_52 h_52 => ?_)
      rw [h_52]
      refine gg_aload_n X dX3_shrink_55 rfl 1 rfl ?_
      refine gg_get X dX3_shrink_56 imX3 0 rfl rfl 5 (by decide) (am 148 rfl) rfl ?_
      refine gg_iload_n X dX3_shrink_59 rfl 0 rfl ?_
      refine gg_iald X dX3_shrink_60 3 1 rfl rfl o rfl (by omega) (by decide) ?_
      exact gg_iret X dX3_shrink_61 hr hk (wV (wS t (va_up (gS t) o n)) (upd (gK t) (pL o n) 0) (upd (gV t) (pL o n) 0)) (Or.inl ⟨j, o, n, ⟨hj, rfl, hk2, ho, hv, hn⟩, by show nI (va_up (gS t) o n o) = nI n; rw [va_up_self], rfl⟩) rfl (Nat.le_of_ble_eq_true rfl) (Nat.le_of_ble_eq_true rfl)
    · refine gg_iconst X dX3_shrink_22 (v := (-1)) (by decide) ?_
      exact gg_iret X dX3_shrink_23 hr hk t (Or.inr ⟨fun ⟨j', o', n', g1, g2, g3, g4, g5, g6⟩ => by
          have e1 := r_inj (by omega) (by omega) g2
          subst e1
          have e2 := nI_inj (by omega) (by omega) (hv.symm.trans g5)
          subst e2
          have := (nI_eq (a := gS t o) (b := 0) (by omega) (by omega)).mp c_19
          omega, rfl, rfl⟩) rfl (Nat.le_of_ble_eq_true rfl) (Nat.le_of_ble_eq_true rfl)
set_option maxHeartbeats 4000000 in
set_option maxRecDepth 100000 in
theorem k_growd (l : Launch) (D : va_G) (G : DF) (t : DS) (hk0 : dOk t) (hC : dC G ≤ 3000) (r s : Int32) : mG l yX3_grow wX3_grow ({ frames := 4, cells := 0, slots := 0, locals := 88 }) D vwCl (dT G) [.ref (dH G), .int r, .int s] (dW G t) (qI D vwCl (fun (x : Int32) (w : DS) => dpGrow (dC G) t r s x w) (dW G)) := by
  refine gg_met (cc := cX3_grow) (nL := 4) (ret := (some .int)) (lv := [(0, .ref (dH G)), (1, .int r), (2, .int s)]) (by decide) rfl rfl (Nat.le_of_ble_eq_true rfl) ?_
  intro p_ e_ s_ m_ bl_ me_ cc_ A_ X hr hk hnm
  have hm := hk0.2.1
  refine gg_aload_n X dX3_grow_0 rfl 0 rfl ?_
  refine gg_iload_n X dX3_grow_1 rfl 1 rfl ?_
  refine gc_i X (gr_V (q0 := 0) X dX3_grow_2 X.2.2.2.2.2.1 (k_hasObject l D G t hk0 r) (cwV 1 X.2.2.2.2.1 (gdV (al 189 rfl) (al 190 rfl) (al 249 rfl) (al 4 rfl) (al 191 rfl)) rfl rfl rfl (by decide +kernel) ⟨Nat.le_of_ble_eq_true rfl, Nat.le_of_ble_eq_true rfl⟩) rfl rfl rfl rfl rfl (Nat.le_of_ble_eq_true rfl) ⟨Nat.le_of_ble_eq_true rfl, Nat.le_of_ble_eq_true rfl⟩) (fun r_2 w_2 h_2 => ?_)
  obtain ⟨ew, h_2⟩ := h_2
  rw [ew]
  refine gg_if_eq (tgt := 31) X dX3_grow_5 (by decide) (fun c_5 => ?_) (fun c_5 => ?_)
  · refine gg_iconst X dX3_grow_31 (v := (-1)) (by decide) ?_
    exact gg_iret X dX3_grow_32 hr hk t (Or.inr ⟨fun ⟨j', o', a', g1, g2, g3, g4, g5, g6, g7, g8⟩ => b01 h_2 c_5 ⟨j', o', g1, g2, g3, g4, g5⟩, rfl, rfl⟩) rfl (Nat.le_of_ble_eq_true rfl) (Nat.le_of_ble_eq_true rfl)
  · obtain ⟨j, o, hj, rfl, hk2, ho, hv⟩ := b01' h_2 c_5
    have h20 := hk0.2.2.1 o ho
    refine gg_iload_n X dX3_grow_8 rfl 2 rfl ?_
    refine gc_i X (gr_S X dX3_grow_9 X.2.2.2.2.2.1 (k_isRd l D (dT G) (dW G t) s) (cwS 1 X.2.2.2.2.1 (gdS (al 165 rfl) (al 166 rfl) (al 4 rfl) (al 167 rfl)) rfl rfl rfl (by decide +kernel) ⟨Nat.le_of_ble_eq_true rfl, Nat.le_of_ble_eq_true rfl⟩) rfl rfl (Nat.le_of_ble_eq_true rfl) ⟨Nat.le_of_ble_eq_true rfl, Nat.le_of_ble_eq_true rfl⟩) (fun r_9 w_9 h_9 => ?_)
    refine gg_if_eq (tgt := 31) X dX3_grow_12 (by decide) (fun c_12 => ?_) (fun c_12 => ?_)
    · refine gg_iconst X dX3_grow_31 (v := (-1)) (by decide) ?_
      exact gg_iret X dX3_grow_32 hr hk t (Or.inr ⟨fun ⟨j', o', a', g1, g2, g3, g4, g5, g6, g7, g8⟩ => b01 h_9 c_12 ⟨a', g6, g7⟩, rfl, rfl⟩) rfl (Nat.le_of_ble_eq_true rfl) (Nat.le_of_ble_eq_true rfl)
    · obtain ⟨a, ha, rfl⟩ := b01' h_9 c_12
      refine gg_aload_n X dX3_grow_15 rfl 0 rfl ?_
      refine gg_get X dX3_grow_16 imX3 0 rfl rfl 5 (by decide) (am 148 rfl) rfl ?_
      refine gg_aload_n X dX3_grow_19 rfl 0 rfl ?_
      refine gg_get X dX3_grow_20 imX3 0 rfl rfl 2 (by decide) (am 145 rfl) rfl ?_
      refine gg_iload_n X dX3_grow_23 rfl 1 rfl ?_
      refine gg_iald X dX3_grow_24 2 1 rfl rfl j rfl (by omega) (by decide) ?_
      rw [hv]
      refine gg_iald X dX3_grow_25 3 1 rfl rfl o rfl (by omega) (by decide) ?_
      refine gg_bipush X dX3_grow_26 (v := nI 20) (by decide) ?_
      refine gg_icmp_ne (tgt := 33) X dX3_grow_28 (by decide) (fun c_28 => ?_) (fun c_28 => ?_)
      · have h28 : gS t o < 20 := by
          have : ¬ gS t o = 20 := fun e => c_28 (by rw [e])
          omega
        refine gg_aload_n X dX3_grow_33 rfl 0 rfl ?_
        refine gg_iconst X dX3_grow_34 (v := nI 1) (by decide) ?_
        refine gc_i X (gr_V (q0 := 0) X dX3_grow_35 X.2.2.2.2.2.1 (k_hasRoom l D G t hk0 hC 1 (by decide)) (cwV 1 X.2.2.2.2.1 (gdV (al 168 rfl) (al 169 rfl) (al 244 rfl) (al 4 rfl) (al 170 rfl)) rfl rfl rfl (by decide +kernel) ⟨Nat.le_of_ble_eq_true rfl, Nat.le_of_ble_eq_true rfl⟩) rfl rfl rfl rfl rfl (Nat.le_of_ble_eq_true rfl) ⟨Nat.le_of_ble_eq_true rfl, Nat.le_of_ble_eq_true rfl⟩) (fun r_35 w_35 h_35 => ?_)
        obtain ⟨R, hR, h_35⟩ := h_35
        refine gg_if_ne (tgt := 43) X dX3_grow_38 (by decide) (fun c_38 => ?_) (fun c_38 => ?_)
        · rcases h_35 with ⟨h35, -, ew2⟩ | ⟨-, h35, -⟩
          rotate_left
          · exact absurd h35 c_38
          rw [ew2]
          refine gg_aload_n X dX3_grow_43 rfl 0 rfl ?_
          refine gg_get X dX3_grow_44 imX3 0 rfl rfl 2 (by decide) (am 145 rfl) rfl ?_
          refine gg_iload_n X dX3_grow_47 rfl 1 rfl ?_
          refine gg_iald X dX3_grow_48 2 1 rfl rfl j rfl (by omega) (by decide) ?_
          refine gg_st (st' := [.int (nI o)]) (by show [Value.int (gV t j)] = _; rw [hv]) ?_
          refine gg_istore_n X dX3_grow_49 rfl (by decide) rfl ?_
          refine gg_aload_n X dX3_grow_50 rfl 1 rfl ?_
          refine gg_iload_n X dX3_grow_51 rfl 0 rfl ?_
          refine gg_aload_n X dX3_grow_52 rfl 1 rfl ?_
          refine gg_get X dX3_grow_53 imX3 0 rfl rfl 5 (by decide) (am 148 rfl) rfl ?_
          refine gg_iload_n X dX3_grow_56 rfl 0 rfl ?_
          refine gg_iald X dX3_grow_57 3 1 rfl rfl o rfl (by omega) (by decide) ?_
          refine gc_i X (gr_S X dX3_grow_58 X.2.2.2.2.2.1 (k_placeOf l D (dT G) (dW G (wR t R)) o (gS t o)) (cwS 2 X.2.2.2.2.1 (gdS (al 180 rfl) (al 181 rfl) (al 4 rfl) (al 182 rfl)) rfl rfl rfl (by decide +kernel) ⟨Nat.le_of_ble_eq_true rfl, Nat.le_of_ble_eq_true rfl⟩) rfl rfl (Nat.le_of_ble_eq_true rfl) ⟨Nat.le_of_ble_eq_true rfl, Nat.le_of_ble_eq_true rfl⟩) (fun r_58 w_58 h_58 => ?_)
          rw [h_58]
          refine gg_iload_n X dX3_grow_61 rfl 3 rfl ?_
          refine gc_v X (gr_V (q0 := 0) X dX3_grow_62 X.2.2.2.2.2.1 (k_move l D G (wR t R) (pL o (gS t o)) a (pL_lt hk0 ho h28) (by omega) (nar_k (t := t) (p := a) hk0 (Or.inl (by omega)))) (cwV 2 X.2.2.2.2.1 (gdV (al 183 rfl) (al 184 rfl) (al 248 rfl) (al 4 rfl) (al 185 rfl)) rfl rfl rfl (by decide +kernel) ⟨Nat.le_of_ble_eq_true rfl, Nat.le_of_ble_eq_true rfl⟩) rfl rfl rfl rfl rfl (Nat.le_of_ble_eq_true rfl) ⟨Nat.le_of_ble_eq_true rfl, Nat.le_of_ble_eq_true rfl⟩) (fun w_62 h_62 => ?_)
          rw [h_62]
          refine gg_aload_n X dX3_grow_65 rfl 1 rfl ?_
          refine gg_get X dX3_grow_66 imX3 0 rfl rfl 5 (by decide) (am 148 rfl) rfl ?_
          refine gg_iload_n X dX3_grow_69 rfl 0 rfl ?_
          refine gg_dup2 X dX3_grow_70 rfl rfl ?_
          refine gg_iald X dX3_grow_71 3 1 rfl rfl o rfl (by omega) (by decide) ?_
          refine gg_iconst X dX3_grow_72 (v := 1) (by decide) ?_
          refine gg_iadd X dX3_grow_73 (nI_1 _) ?_
          refine gg_iast X dX3_grow_74 3 1 rfl rfl o rfl (by omega) (by decide) (ws' := dW G (wS (wV (wR t R) (upd (gK t) (pL o (gS t o)) (gK t a)) (upd (gV t) (pL o (gS t o)) (gV t a))) (va_up (gS t) o (gS t o + 1)))) (by rw [upd_nI]; rfl) ?_
          refine gg_aload_n X dX3_grow_75 rfl 1 rfl ?_
          refine gg_get X dX3_grow_76 imX3 0 rfl rfl 5 (by decide) (am 148 rfl) rfl ?_
          refine gg_iload_n X dX3_grow_79 rfl 0 rfl ?_
          refine gg_iald X dX3_grow_80 3 1 rfl rfl o rfl (by omega) (by decide) ?_
          exact gg_iret X dX3_grow_81 hr hk (wS (wV (wR t R) (upd (gK t) (pL o (gS t o)) (gK t a)) (upd (gV t) (pL o (gS t o)) (gV t a))) (va_up (gS t) o (gS t o + 1))) (Or.inl ⟨j, o, a, R, ⟨hj, rfl, hk2, ho, hv, ha, rfl, h28⟩, hR, Or.inl ⟨h35, by show nI (va_up (gS t) o (gS t o + 1) o) = _; rw [va_up_self], rfl⟩⟩) rfl (Nat.le_of_ble_eq_true rfl) (Nat.le_of_ble_eq_true rfl)
        · rcases h_35 with ⟨-, h35, -⟩ | ⟨h35, -, ew2⟩
          · rw [h35] at c_38; exact absurd c_38 (by decide)
          rw [ew2]
          refine gg_iconst X dX3_grow_41 (v := 0) (by decide) ?_
          exact gg_iret X dX3_grow_42 hr hk (wF (wR t R) (gF t + 1)) (Or.inl ⟨j, o, a, R, ⟨hj, rfl, hk2, ho, hv, ha, rfl, h28⟩, hR, Or.inr ⟨h35, rfl, rfl⟩⟩) rfl (Nat.le_of_ble_eq_true rfl) (Nat.le_of_ble_eq_true rfl)
      · refine gg_iconst X dX3_grow_31 (v := (-1)) (by decide) ?_
        exact gg_iret X dX3_grow_32 hr hk t (Or.inr ⟨fun ⟨j', o', a', g1, g2, g3, g4, g5, g6, g7, g8⟩ => by
            have e1 := r_inj (by omega) (by omega) g2
            subst e1
            have e2 := nI_inj (by omega) (by omega) (hv.symm.trans g5)
            subst e2
            have := (nI_eq (a := gS t o) (b := 20) (by omega) (by omega)).mp c_28
            omega, rfl, rfl⟩) rfl (Nat.le_of_ble_eq_true rfl) (Nat.le_of_ble_eq_true rfl)
set_option maxHeartbeats 4000000 in
set_option maxRecDepth 100000 in
theorem k_maked (l : Launch) (D : va_G) (G : DF) (t : DS) (hk0 : dOk t) (hC : dC G ≤ 3000) (r n s : Int32) : mG l yX3_make wX3_make ({ frames := 4, cells := 0, slots := 0, locals := 88 }) D vwCl (dT G) [.ref (dH G), .int r, .int n, .int s] (dW G t) (qI D vwCl (fun (x : Int32) (w : DS) => dpMake (dC G) t r n s x w) (dW G)) := by
  refine gg_met (cc := cX3_make) (nL := 5) (ret := (some .int)) (lv := [(0, .ref (dH G)), (1, .int r), (2, .int n), (3, .int s)]) (by decide) rfl rfl (Nat.le_of_ble_eq_true rfl) ?_
  intro p_ e_ s_ m_ bl_ me_ cc_ A_ X hr hk hnm
  have hm := hk0.2.1
  refine gg_iload_n X dX3_make_0 rfl 1 rfl ?_
  refine gc_i X (gr_S X dX3_make_1 X.2.2.2.2.2.1 (k_isRd l D (dT G) (dW G t) r) (cwS 1 X.2.2.2.2.1 (gdS (al 165 rfl) (al 166 rfl) (al 4 rfl) (al 167 rfl)) rfl rfl rfl (by decide +kernel) ⟨Nat.le_of_ble_eq_true rfl, Nat.le_of_ble_eq_true rfl⟩) rfl rfl (Nat.le_of_ble_eq_true rfl) ⟨Nat.le_of_ble_eq_true rfl, Nat.le_of_ble_eq_true rfl⟩) (fun r_1 w_1 h_1 => ?_)
  refine gg_if_eq (tgt := 24) X dX3_make_4 (by decide) (fun c_4 => ?_) (fun c_4 => ?_)
  · refine gg_iconst X dX3_make_24 (v := (-1)) (by decide) ?_
    exact gg_iret X dX3_make_25 hr hk t (Or.inr ⟨fun ⟨j', k', a', g1, g2, g3, g4, g5, g6⟩ => b01 h_1 c_4 ⟨j', g1, g2⟩, rfl, rfl⟩) rfl (Nat.le_of_ble_eq_true rfl) (Nat.le_of_ble_eq_true rfl)
  · obtain ⟨j, hj, rfl⟩ := b01' h_1 c_4
    refine gg_iload_n X dX3_make_7 rfl 3 rfl ?_
    refine gc_i X (gr_S X dX3_make_8 X.2.2.2.2.2.1 (k_isRd l D (dT G) (dW G t) s) (cwS 1 X.2.2.2.2.1 (gdS (al 165 rfl) (al 166 rfl) (al 4 rfl) (al 167 rfl)) rfl rfl rfl (by decide +kernel) ⟨Nat.le_of_ble_eq_true rfl, Nat.le_of_ble_eq_true rfl⟩) rfl rfl (Nat.le_of_ble_eq_true rfl) ⟨Nat.le_of_ble_eq_true rfl, Nat.le_of_ble_eq_true rfl⟩) (fun r_8 w_8 h_8 => ?_)
    refine gg_if_eq (tgt := 24) X dX3_make_11 (by decide) (fun c_11 => ?_) (fun c_11 => ?_)
    · refine gg_iconst X dX3_make_24 (v := (-1)) (by decide) ?_
      exact gg_iret X dX3_make_25 hr hk t (Or.inr ⟨fun ⟨j', k', a', g1, g2, g3, g4, g5, g6⟩ => b01 h_8 c_11 ⟨a', g5, g6⟩, rfl, rfl⟩) rfl (Nat.le_of_ble_eq_true rfl) (Nat.le_of_ble_eq_true rfl)
    · obtain ⟨a, ha, rfl⟩ := b01' h_8 c_11
      refine gg_iload_n X dX3_make_14 rfl 2 rfl ?_
      refine gg_if_lt (tgt := 24) X dX3_make_15 (by decide) (fun c_15 => ?_) (fun c_15 => ?_)
      · refine gg_iconst X dX3_make_24 (v := (-1)) (by decide) ?_
        exact gg_iret X dX3_make_25 hr hk t (Or.inr ⟨fun ⟨j', k', a', g1, g2, g3, g4, g5, g6⟩ => ix_no (n := 21) (by decide) (Or.inl c_15) k' (by omega) g4, rfl, rfl⟩) rfl (Nat.le_of_ble_eq_true rfl) (Nat.le_of_ble_eq_true rfl)
      · refine gg_iload_n X dX3_make_18 rfl 2 rfl ?_
        refine gg_bipush X dX3_make_19 (v := nI 20) (by decide) ?_
        refine gg_icmp_le (tgt := 26) X dX3_make_21 (by decide) (fun c_21 => ?_) (fun c_21 => ?_)
        · obtain ⟨k, hk2, rfl⟩ : ∃ k, k ≤ 20 ∧ n = nI k := by
            obtain ⟨k, h1, h2⟩ := nI_of2 (M := nI 20) (n := 20) (by decide) c_15 c_21
            exact ⟨k, h1, h2⟩
          refine gg_aload_n X dX3_make_26 rfl 0 rfl ?_
          refine gg_iconst X dX3_make_27 (v := nI 2) (by decide) ?_
          refine gg_iload_n X dX3_make_28 rfl 2 rfl ?_
          refine gg_iadd X dX3_make_29 (nI_add _ _) ?_
          refine gc_i X (gr_V (q0 := 0) X dX3_make_30 X.2.2.2.2.2.1 (k_hasRoom l D G t hk0 hC (2 + k) (by omega)) (cwV 1 X.2.2.2.2.1 (gdV (al 168 rfl) (al 169 rfl) (al 244 rfl) (al 4 rfl) (al 170 rfl)) rfl rfl rfl (by decide +kernel) ⟨Nat.le_of_ble_eq_true rfl, Nat.le_of_ble_eq_true rfl⟩) rfl rfl rfl rfl rfl (Nat.le_of_ble_eq_true rfl) ⟨Nat.le_of_ble_eq_true rfl, Nat.le_of_ble_eq_true rfl⟩) (fun r_30 w_30 h_30 => ?_)
          obtain ⟨R, hR, h_30⟩ := h_30
          refine gg_if_ne (tgt := 38) X dX3_make_33 (by decide) (fun c_33 => ?_) (fun c_33 => ?_)
          · rcases h_30 with ⟨h30, -, ew2⟩ | ⟨-, h30, -⟩
            rotate_left
            · exact absurd h30 c_33
            rw [ew2]
            refine gg_iconst X dX3_make_38 (v := nI 0) (by decide) ?_
            refine gg_istore X dX3_make_39 (by decide) rfl ?_
            refine gg_ws (ws' := dW G (wV (wR t R) (fI (gK t) (pL (gM t) 0) 0 (gK t a)) (fI (gV t) (pL (gM t) 0) 0 (gV t a)))) (by rw [fI_0, fI_0]) ?_
            refine gg_loop (ι := Nat) (fun q => q ≤ k) (fun q => k - q) (fun q => dW G (wV (wR t R) (fI (gK t) (pL (gM t) 0) q (gK t a)) (fI (gV t) (pL (gM t) 0) q (gV t a)))) (fun q => [(4, .int (nI q)), (0, .ref (dH G)), (1, .int (nI j)), (2, .int (nI k)), (3, .int (nI a))]) ?_ 0 (Nat.zero_le _)
            intro q hqk ih
            refine gg_iload X dX3_make_41 0 rfl ?_
            refine gg_iload_n X dX3_make_43 rfl 3 rfl ?_
            refine gg_icmp_ge (tgt := 67) X dX3_make_44 (by decide) (fun c_44 => ?_) (fun c_44 => ?_)
            · have hq2 : q = k := by have := (nI_leI (a := k) (b := q) (by omega) (by omega)).mp c_44; omega
              rw [hq2]
              refine gg_aload_n X dX3_make_67 rfl 1 rfl ?_
              refine gg_get X dX3_make_68 imX3 0 rfl rfl 5 (by decide) (am 148 rfl) rfl ?_
              refine gg_aload_n X dX3_make_71 rfl 1 rfl ?_
              refine gg_get X dX3_make_72 imX3 0 rfl rfl 4 (by decide) (am 147 rfl) rfl ?_
              refine gg_iload_n X dX3_make_75 rfl 3 rfl ?_
              refine gg_iast X dX3_make_76 3 1 rfl rfl (gM t) rfl (by omega) (by decide) (ws' := dW G (wV (wS (wR t R) (va_up (gS t) (gM t) k)) (fI (gK t) (pL (gM t) 0) k (gK t a)) (fI (gV t) (pL (gM t) 0) k (gV t a)))) (by rw [upd_nI]; rfl) ?_
              refine gg_aload_n X dX3_make_77 rfl 1 rfl ?_
              refine gg_get X dX3_make_78 imX3 0 rfl rfl 1 (by decide) (am 144 rfl) rfl ?_
              refine gg_iload_n X dX3_make_81 rfl 2 rfl ?_
              refine gg_iconst X dX3_make_82 (v := 2) (by decide) ?_
              refine gg_bast X dX3_make_83 1 0 rfl rfl j rfl (by omega) (by decide) (by decide) (ws' := dW G (wV (wS (wR t R) (va_up (gS t) (gM t) k)) (upd (fI (gK t) (pL (gM t) 0) k (gK t a)) j 2) (fI (gV t) (pL (gM t) 0) k (gV t a)))) rfl ?_
              refine gg_aload_n X dX3_make_84 rfl 1 rfl ?_
              refine gg_get X dX3_make_85 imX3 0 rfl rfl 2 (by decide) (am 145 rfl) rfl ?_
              refine gg_iload_n X dX3_make_88 rfl 2 rfl ?_
              refine gg_aload_n X dX3_make_89 rfl 1 rfl ?_
              refine gg_get X dX3_make_90 imX3 0 rfl rfl 4 (by decide) (am 147 rfl) rfl ?_
              refine gg_iast X dX3_make_93 2 1 rfl rfl j rfl (by omega) (by decide) (ws' := dW G (wV (wS (wR t R) (va_up (gS t) (gM t) k)) (upd (fI (gK t) (pL (gM t) 0) k (gK t a)) j 2) (upd (fI (gV t) (pL (gM t) 0) k (gV t a)) j (nI (gM t))))) rfl ?_
              refine gg_aload_n X dX3_make_94 rfl 1 rfl ?_
              refine gg_dup X dX3_make_95 rfl ?_
              refine gg_get X dX3_make_96 imX3 0 rfl rfl 4 (by decide) (am 147 rfl) rfl ?_
              refine gg_iconst X dX3_make_99 (v := 1) (by decide) ?_
              refine gg_iadd X dX3_make_100 (nI_1 _) ?_
              refine gg_put X dX3_make_101 imX3 tyX3 tyX3_ok nmX3 0 rfl rfl 4 (by decide) (am 147 rfl) (ws' := dW G (wM (wV (wS (wR t R) (va_up (gS t) (gM t) k)) (upd (fI (gK t) (pL (gM t) 0) k (gK t a)) j 2) (upd (fI (gV t) (pL (gM t) 0) k (gV t a)) j (nI (gM t)))) (gM t + 1))) (ty := .int) rfl (by decide +kernel) rfl rfl (Nat.le_of_ble_eq_true rfl) (rfl) ?_
              refine gg_iconst X dX3_make_104 (v := 1) (by decide) ?_
              exact gg_iret X dX3_make_105 hr hk (wM (wV (wS (wR t R) (va_up (gS t) (gM t) k)) (upd (fI (gK t) (pL (gM t) 0) k (gK t a)) j 2) (upd (fI (gV t) (pL (gM t) 0) k (gV t a)) j (nI (gM t)))) (gM t + 1)) (Or.inl ⟨j, k, a, R, ⟨hj, rfl, hk2, rfl, ha, rfl⟩, hR, Or.inl ⟨h30, rfl, rfl⟩⟩) rfl (Nat.le_of_ble_eq_true rfl) (Nat.le_of_ble_eq_true rfl)
            · have hq2 : ¬ k ≤ q := fun h => c_44 ((nI_leI (a := k) (b := q) (by omega) (by omega)).mpr h)
              refine gg_aload_n X dX3_make_47 rfl 1 rfl ?_
              refine gg_aload_n X dX3_make_48 rfl 1 rfl ?_
              refine gg_get X dX3_make_49 imX3 0 rfl rfl 4 (by decide) (am 147 rfl) rfl ?_
              refine gg_iload X dX3_make_52 0 rfl ?_
              refine gc_i X (gr_S X dX3_make_54 X.2.2.2.2.2.1 (k_placeOf l D (dT G) (dW G (wV (wR t R) (fI (gK t) (pL (gM t) 0) q (gK t a)) (fI (gV t) (pL (gM t) 0) q (gV t a)))) (gM t) q) (cwS 2 X.2.2.2.2.1 (gdS (al 180 rfl) (al 181 rfl) (al 4 rfl) (al 182 rfl)) rfl rfl rfl (by decide +kernel) ⟨Nat.le_of_ble_eq_true rfl, Nat.le_of_ble_eq_true rfl⟩) rfl rfl (Nat.le_of_ble_eq_true rfl) ⟨Nat.le_of_ble_eq_true rfl, Nat.le_of_ble_eq_true rfl⟩) (fun r_54 w_54 h_54 => ?_)
              rw [h_54]
              refine gg_iload_n X dX3_make_57 rfl 4 rfl ?_
              refine gc_v X (gr_V (q0 := 0) X dX3_make_58 X.2.2.2.2.2.1 (k_move l D G (wV (wR t R) (fI (gK t) (pL (gM t) 0) q (gK t a)) (fI (gV t) (pL (gM t) 0) q (gV t a))) (pL (gM t) q) a (by unfold pL; omega) (by omega) (by show vp_nar .byte (fI (gK t) (pL (gM t) 0) q (gK t a) a) = fI (gK t) (pL (gM t) 0) q (gK t a) a; rw [fI_out (by have := pL_ge (gM t) 0; omega)]; exact nar_k hk0 (Or.inl (by omega)))) (cwV 2 X.2.2.2.2.1 (gdV (al 183 rfl) (al 184 rfl) (al 248 rfl) (al 4 rfl) (al 185 rfl)) rfl rfl rfl (by decide +kernel) ⟨Nat.le_of_ble_eq_true rfl, Nat.le_of_ble_eq_true rfl⟩) rfl rfl rfl rfl rfl (Nat.le_of_ble_eq_true rfl) ⟨Nat.le_of_ble_eq_true rfl, Nat.le_of_ble_eq_true rfl⟩) (fun w_58 h_58 => ?_)
              rw [h_58]
              refine gg_iinc X dX3_make_61 0 rfl (nI_1 _) (by decide) rfl ?_
              refine gg_goto (tgt := 41) X dX3_make_64 (by decide) ?_
              refine gg_ws (ws' := dW G (wV (wR t R) (fI (gK t) (pL (gM t) 0) (q + 1) (gK t a)) (fI (gV t) (pL (gM t) 0) (q + 1) (gV t a)))) (by rw [← fI_s, ← fI_s]; exact congrArg (dW G) (fI_mv (by omega))) ?_
              exact ih (q + 1) (by omega) (by omega)
          · rcases h_30 with ⟨-, h30, -⟩ | ⟨h30, -, ew2⟩
            · rw [h30] at c_33; exact absurd c_33 (by decide)
            rw [ew2]
            refine gg_iconst X dX3_make_36 (v := 0) (by decide) ?_
            exact gg_iret X dX3_make_37 hr hk (wF (wR t R) (gF t + 1)) (Or.inl ⟨j, k, a, R, ⟨hj, rfl, hk2, rfl, ha, rfl⟩, hR, Or.inr ⟨h30, rfl, rfl⟩⟩) rfl (Nat.le_of_ble_eq_true rfl) (Nat.le_of_ble_eq_true rfl)
        · refine gg_iconst X dX3_make_24 (v := (-1)) (by decide) ?_
          exact gg_iret X dX3_make_25 hr hk t (Or.inr ⟨fun ⟨j', k', a', g1, g2, g3, g4, g5, g6⟩ => c_21 (by rw [g4]; exact nI_le g3 (by omega)), rfl, rfl⟩) rfl (Nat.le_of_ble_eq_true rfl) (Nat.le_of_ble_eq_true rfl)
set_option maxHeartbeats 4000000 in
set_option maxRecDepth 100000 in
theorem k_lookd (l : Launch) (D : va_G) (G : DF) (t : DS) (hk0 : dOk t) (r : Int32) : mG l yX3_look wX3_look ({ frames := 1, cells := 0, slots := 0, locals := 20 }) D vwCl (dT G) [.ref (dH G), .int r] (dW G t) (qI D vwCl (fun (x : Int32) (w : DS) => dpLook t r x w) (dW G)) := by
  refine gg_met (cc := cX3_look) (nL := 2) (ret := (some .int)) (lv := [(0, .ref (dH G)), (1, .int r)]) (by decide) rfl rfl (Nat.le_of_ble_eq_true rfl) ?_
  intro p_ e_ s_ m_ bl_ me_ cc_ A_ X hr hk hnm
  have hm := hk0.2.1
  refine gg_iload_n X dX3_look_0 rfl 1 rfl ?_
  refine gc_i X (gr_S X dX3_look_1 X.2.2.2.2.2.1 (k_isRd l D (dT G) (dW G t) r) (cwS 1 X.2.2.2.2.1 (gdS (al 165 rfl) (al 166 rfl) (al 4 rfl) (al 167 rfl)) rfl rfl rfl (by decide +kernel) ⟨Nat.le_of_ble_eq_true rfl, Nat.le_of_ble_eq_true rfl⟩) rfl rfl (Nat.le_of_ble_eq_true rfl) ⟨Nat.le_of_ble_eq_true rfl, Nat.le_of_ble_eq_true rfl⟩) (fun r_1 w_1 h_1 => ?_)
  refine gg_if_ne (tgt := 11) X dX3_look_4 (by decide) (fun c_4 => ?_) (fun c_4 => ?_)
  · obtain ⟨j, hj, rfl⟩ := b01' h_1 c_4
    refine gg_aload_n X dX3_look_11 rfl 0 rfl ?_
    refine gg_get X dX3_look_12 imX3 0 rfl rfl 1 (by decide) (am 144 rfl) rfl ?_
    refine gg_iload_n X dX3_look_15 rfl 1 rfl ?_
    refine gg_bald X dX3_look_16 1 0 rfl rfl j rfl (by omega) (by decide) ?_
    refine gg_if_ne (tgt := 25) X dX3_look_17 (by decide) (fun c_17 => ?_) (fun c_17 => ?_)
    · refine gg_aload_n X dX3_look_25 rfl 0 rfl ?_
      refine gg_get X dX3_look_26 imX3 0 rfl rfl 1 (by decide) (am 144 rfl) rfl ?_
      refine gg_iload_n X dX3_look_29 rfl 1 rfl ?_
      refine gg_bald X dX3_look_30 1 0 rfl rfl j rfl (by omega) (by decide) ?_
      refine gg_iconst X dX3_look_31 (v := 1) (by decide) ?_
      refine gg_icmp_ne (tgt := 40) X dX3_look_32 (by decide) (fun c_32 => ?_) (fun c_32 => ?_)
      · obtain ⟨h2, o, ho, hv⟩ : gK t j = 2 ∧ ∃ o, o < gM t ∧ gV t j = nI o := by
          rcases hk0.2.2.2 j (Or.inl (by omega)) with ⟨h, -⟩ | h | h
          · exact absurd h c_17
          · exact absurd h c_32
          · exact h
        refine gg_aload_n X dX3_look_40 rfl 0 rfl ?_
        refine gg_get X dX3_look_41 imX3 0 rfl rfl 5 (by decide) (am 148 rfl) rfl ?_
        refine gg_aload_n X dX3_look_44 rfl 0 rfl ?_
        refine gg_get X dX3_look_45 imX3 0 rfl rfl 2 (by decide) (am 145 rfl) rfl ?_
        refine gg_iload_n X dX3_look_48 rfl 1 rfl ?_
        refine gg_iald X dX3_look_49 2 1 rfl rfl j rfl (by omega) (by decide) ?_
        rw [hv]
        refine gg_iald X dX3_look_50 3 1 rfl rfl o rfl (by omega) (by decide) ?_
        exact gg_iret X dX3_look_51 hr hk t (⟨rfl, Or.inr ⟨j, hj, rfl, Or.inr (Or.inr ⟨o, h2, ho, hv, rfl⟩)⟩⟩) rfl (Nat.le_of_ble_eq_true rfl) (Nat.le_of_ble_eq_true rfl)
      · refine gg_bipush X dX3_look_35 (v := -3) (by decide) ?_
        refine gg_goto (tgt := 51) X dX3_look_37 (by decide) ?_
        exact gg_iret X dX3_look_51 hr hk t (⟨rfl, Or.inr ⟨j, hj, rfl, Or.inr (Or.inl ⟨c_32, rfl⟩)⟩⟩) rfl (Nat.le_of_ble_eq_true rfl) (Nat.le_of_ble_eq_true rfl)
    · refine gg_bipush X dX3_look_20 (v := -2) (by decide) ?_
      refine gg_goto (tgt := 51) X dX3_look_22 (by decide) ?_
      exact gg_iret X dX3_look_51 hr hk t (⟨rfl, Or.inr ⟨j, hj, rfl, Or.inl ⟨c_17, rfl⟩⟩⟩) rfl (Nat.le_of_ble_eq_true rfl) (Nat.le_of_ble_eq_true rfl)
  · refine gg_iconst X dX3_look_7 (v := (-1)) (by decide) ?_
    refine gg_goto (tgt := 51) X dX3_look_8 (by decide) ?_
    exact gg_iret X dX3_look_51 hr hk t (⟨rfl, Or.inl ⟨b01 h_1 c_4, rfl⟩⟩) rfl (Nat.le_of_ble_eq_true rfl) (Nat.le_of_ble_eq_true rfl)
set_option maxHeartbeats 4000000 in
set_option maxRecDepth 100000 in
theorem k_numberInd (l : Launch) (D : va_G) (G : DF) (t : DS) (r : Int32) : mG l yX3_numberIn wX3_numberIn ({ frames := 1, cells := 0, slots := 0, locals := 20 }) D vwCl (dT G) [.ref (dH G), .int r] (dW G t) (qI D vwCl (fun (x : Int32) (w : DS) => dpNumIn t r x w) (dW G)) := by
  refine gg_met (cc := cX3_numberIn) (nL := 2) (ret := (some .int)) (lv := [(0, .ref (dH G)), (1, .int r)]) (by decide) rfl rfl (Nat.le_of_ble_eq_true rfl) ?_
  intro p_ e_ s_ m_ bl_ me_ cc_ A_ X hr hk hnm
  refine gg_iload_n X dX3_numberIn_0 rfl 1 rfl ?_
  refine gc_i X (gr_S X dX3_numberIn_1 X.2.2.2.2.2.1 (k_isRd l D (dT G) (dW G t) r) (cwS 1 X.2.2.2.2.1 (gdS (al 165 rfl) (al 166 rfl) (al 4 rfl) (al 167 rfl)) rfl rfl rfl (by decide +kernel) ⟨Nat.le_of_ble_eq_true rfl, Nat.le_of_ble_eq_true rfl⟩) rfl rfl (Nat.le_of_ble_eq_true rfl) ⟨Nat.le_of_ble_eq_true rfl, Nat.le_of_ble_eq_true rfl⟩) (fun r_1 w_1 h_1 => ?_)
  refine gg_if_eq (tgt := 26) X dX3_numberIn_4 (by decide) (fun c_4 => ?_) (fun c_4 => ?_)
  · refine gg_iconst X dX3_numberIn_26 (v := 0) (by decide) ?_
    exact gg_iret X dX3_numberIn_27 hr hk t (⟨rfl, Or.inr ⟨fun ⟨k, h1, h2, _⟩ => b01 h_1 c_4 ⟨k, h1, h2⟩, rfl⟩⟩) rfl (Nat.le_of_ble_eq_true rfl) (Nat.le_of_ble_eq_true rfl)
  · obtain ⟨j, hj, rfl⟩ := b01' h_1 c_4
    refine gg_aload_n X dX3_numberIn_7 rfl 0 rfl ?_
    refine gg_get X dX3_numberIn_8 imX3 0 rfl rfl 1 (by decide) (am 144 rfl) rfl ?_
    refine gg_iload_n X dX3_numberIn_11 rfl 1 rfl ?_
    refine gg_bald X dX3_numberIn_12 1 0 rfl rfl j rfl (by omega) (by decide) ?_
    refine gg_iconst X dX3_numberIn_13 (v := 1) (by decide) ?_
    refine gg_icmp_ne (tgt := 26) X dX3_numberIn_14 (by decide) (fun c_14 => ?_) (fun c_14 => ?_)
    · refine gg_iconst X dX3_numberIn_26 (v := 0) (by decide) ?_
      exact gg_iret X dX3_numberIn_27 hr hk t (⟨rfl, Or.inr ⟨fun ⟨k, h1, h2, h3⟩ => by
          have e := r_inj (by omega) (by omega) h2
          subst e
          exact c_14 h3, rfl⟩⟩) rfl (Nat.le_of_ble_eq_true rfl) (Nat.le_of_ble_eq_true rfl)
    · refine gg_aload_n X dX3_numberIn_17 rfl 0 rfl ?_
      refine gg_get X dX3_numberIn_18 imX3 0 rfl rfl 2 (by decide) (am 145 rfl) rfl ?_
      refine gg_iload_n X dX3_numberIn_21 rfl 1 rfl ?_
      refine gg_iald X dX3_numberIn_22 2 1 rfl rfl j rfl (by omega) (by decide) ?_
      refine gg_goto (tgt := 27) X dX3_numberIn_23 (by decide) ?_
      exact gg_iret X dX3_numberIn_27 hr hk t (⟨rfl, Or.inl ⟨j, hj, rfl, c_14, rfl⟩⟩) rfl (Nat.le_of_ble_eq_true rfl) (Nat.le_of_ble_eq_true rfl)
set_option maxHeartbeats 4000000 in
set_option maxRecDepth 100000 in
theorem k_samed (l : Launch) (D : va_G) (G : DF) (t : DS) (r s : Int32) : mG l yX3_same wX3_same ({ frames := 1, cells := 0, slots := 0, locals := 20 }) D vwCl (dT G) [.ref (dH G), .int r, .int s] (dW G t) (qI D vwCl (fun (x : Int32) (w : DS) => dpSame t r s x w) (dW G)) := by
  refine gg_met (cc := cX3_same) (nL := 3) (ret := (some .int)) (lv := [(0, .ref (dH G)), (1, .int r), (2, .int s)]) (by decide) rfl rfl (Nat.le_of_ble_eq_true rfl) ?_
  intro p_ e_ s_ m_ bl_ me_ cc_ A_ X hr hk hnm
  refine gg_iload_n X dX3_same_0 rfl 1 rfl ?_
  refine gc_i X (gr_S X dX3_same_1 X.2.2.2.2.2.1 (k_isRd l D (dT G) (dW G t) r) (cwS 1 X.2.2.2.2.1 (gdS (al 165 rfl) (al 166 rfl) (al 4 rfl) (al 167 rfl)) rfl rfl rfl (by decide +kernel) ⟨Nat.le_of_ble_eq_true rfl, Nat.le_of_ble_eq_true rfl⟩) rfl rfl (Nat.le_of_ble_eq_true rfl) ⟨Nat.le_of_ble_eq_true rfl, Nat.le_of_ble_eq_true rfl⟩) (fun r_1 w_1 h_1 => ?_)
  refine gg_if_eq (tgt := 14) X dX3_same_4 (by decide) (fun c_4 => ?_) (fun c_4 => ?_)
  · refine gg_iconst X dX3_same_14 (v := (-1)) (by decide) ?_
    refine gg_goto (tgt := 53) X dX3_same_15 (by decide) ?_
    exact gg_iret X dX3_same_53 hr hk t (⟨rfl, Or.inr ⟨fun h => b01 h_1 c_4 h.1, rfl⟩⟩) rfl (Nat.le_of_ble_eq_true rfl) (Nat.le_of_ble_eq_true rfl)
  · obtain ⟨j, hj, rfl⟩ := b01' h_1 c_4
    refine gg_iload_n X dX3_same_7 rfl 2 rfl ?_
    refine gc_i X (gr_S X dX3_same_8 X.2.2.2.2.2.1 (k_isRd l D (dT G) (dW G t) s) (cwS 1 X.2.2.2.2.1 (gdS (al 165 rfl) (al 166 rfl) (al 4 rfl) (al 167 rfl)) rfl rfl rfl (by decide +kernel) ⟨Nat.le_of_ble_eq_true rfl, Nat.le_of_ble_eq_true rfl⟩) rfl rfl (Nat.le_of_ble_eq_true rfl) ⟨Nat.le_of_ble_eq_true rfl, Nat.le_of_ble_eq_true rfl⟩) (fun r_8 w_8 h_8 => ?_)
    refine gg_if_ne (tgt := 18) X dX3_same_11 (by decide) (fun c_11 => ?_) (fun c_11 => ?_)
    · obtain ⟨k, hk2, rfl⟩ := b01' h_8 c_11
      refine gg_aload_n X dX3_same_18 rfl 0 rfl ?_
      refine gg_get X dX3_same_19 imX3 0 rfl rfl 1 (by decide) (am 144 rfl) rfl ?_
      refine gg_iload_n X dX3_same_22 rfl 1 rfl ?_
      refine gg_bald X dX3_same_23 1 0 rfl rfl j rfl (by omega) (by decide) ?_
      refine gg_aload_n X dX3_same_24 rfl 0 rfl ?_
      refine gg_get X dX3_same_25 imX3 0 rfl rfl 1 (by decide) (am 144 rfl) rfl ?_
      refine gg_iload_n X dX3_same_28 rfl 2 rfl ?_
      refine gg_bald X dX3_same_29 1 0 rfl rfl k rfl (by omega) (by decide) ?_
      refine gg_icmp_ne (tgt := 52) X dX3_same_30 (by decide) (fun c_30 => ?_) (fun c_30 => ?_)
      · refine gg_iconst X dX3_same_52 (v := 0) (by decide) ?_
        exact gg_iret X dX3_same_53 hr hk t (⟨rfl, Or.inl ⟨j, k, hj, rfl, hk2, rfl, Or.inr ⟨fun h => c_30 h.1, rfl⟩⟩⟩) rfl (Nat.le_of_ble_eq_true rfl) (Nat.le_of_ble_eq_true rfl)
      · refine gg_aload_n X dX3_same_33 rfl 0 rfl ?_
        refine gg_get X dX3_same_34 imX3 0 rfl rfl 2 (by decide) (am 145 rfl) rfl ?_
        refine gg_iload_n X dX3_same_37 rfl 1 rfl ?_
        refine gg_iald X dX3_same_38 2 1 rfl rfl j rfl (by omega) (by decide) ?_
        refine gg_aload_n X dX3_same_39 rfl 0 rfl ?_
        refine gg_get X dX3_same_40 imX3 0 rfl rfl 2 (by decide) (am 145 rfl) rfl ?_
        refine gg_iload_n X dX3_same_43 rfl 2 rfl ?_
        refine gg_iald X dX3_same_44 2 1 rfl rfl k rfl (by omega) (by decide) ?_
        refine gg_icmp_ne (tgt := 52) X dX3_same_45 (by decide) (fun c_45 => ?_) (fun c_45 => ?_)
        · refine gg_iconst X dX3_same_52 (v := 0) (by decide) ?_
          exact gg_iret X dX3_same_53 hr hk t (⟨rfl, Or.inl ⟨j, k, hj, rfl, hk2, rfl, Or.inr ⟨fun h => c_45 h.2, rfl⟩⟩⟩) rfl (Nat.le_of_ble_eq_true rfl) (Nat.le_of_ble_eq_true rfl)
        · refine gg_iconst X dX3_same_48 (v := 1) (by decide) ?_
          refine gg_goto (tgt := 53) X dX3_same_49 (by decide) ?_
          exact gg_iret X dX3_same_53 hr hk t (⟨rfl, Or.inl ⟨j, k, hj, rfl, hk2, rfl, Or.inl ⟨c_30, c_45, rfl⟩⟩⟩) rfl (Nat.le_of_ble_eq_true rfl) (Nat.le_of_ble_eq_true rfl)
    · refine gg_iconst X dX3_same_14 (v := (-1)) (by decide) ?_
      refine gg_goto (tgt := 53) X dX3_same_15 (by decide) ?_
      exact gg_iret X dX3_same_53 hr hk t (⟨rfl, Or.inr ⟨fun h => b01 h_8 c_11 h.2, rfl⟩⟩) rfl (Nat.le_of_ble_eq_true rfl) (Nat.le_of_ble_eq_true rfl)
set_option maxHeartbeats 4000000 in
set_option maxRecDepth 100000 in
theorem k_countd (l : Launch) (D : va_G) (G : DF) (t : DS) (hk0 : dOk t) (q : Int32) : mG l yX3_count wX3_count ({ frames := 3, cells := 0, slots := 0, locals := 66 }) D vwCl (dT G) [.ref (dH G), .int q] (dW G t) (qI D vwCl (fun (x : Int32) (w : DS) => dpCount t q x w) (dW G)) := by
  refine gg_met (cc := cX3_count) (nL := 5) (ret := (some .int)) (lv := [(0, .ref (dH G)), (1, .int q)]) (by decide) rfl rfl (Nat.le_of_ble_eq_true rfl) ?_
  intro p_ e_ s_ m_ bl_ me_ cc_ A_ X hr hk hnm
  have hm := hk0.2.1
  refine gg_iconst X dX3_count_0 (v := nI 0) (by decide) ?_
  refine gg_istore_n X dX3_count_1 rfl (by decide) rfl ?_
  refine gg_aload_n X dX3_count_2 rfl 1 rfl ?_
  refine gc_i X (gr_V (q0 := 0) X dX3_count_3 X.2.2.2.2.2.1 (k_reachable l D G t hk0) (cwV 0 X.2.2.2.2.1 (gdV (al 171 rfl) (al 172 rfl) (al 245 rfl) (al 4 rfl) (al 173 rfl)) rfl rfl rfl (by decide +kernel) ⟨Nat.le_of_ble_eq_true rfl, Nat.le_of_ble_eq_true rfl⟩) rfl rfl rfl rfl rfl (Nat.le_of_ble_eq_true rfl) ⟨Nat.le_of_ble_eq_true rfl, Nat.le_of_ble_eq_true rfl⟩) (fun r_3 w_3 h_3 => ?_)
  obtain ⟨R, hR, ew, er⟩ := h_3
  rw [ew, er]
  refine gg_istore_n X dX3_count_6 rfl (by decide) rfl ?_
  refine gg_iconst X dX3_count_7 (v := nI 0) (by decide) ?_
  refine gg_istore X dX3_count_8 (by decide) rfl ?_
  refine gg_lv [0, 2, 1, 3, 4] rfl ?_
  refine gg_loop (ι := Nat) (fun a => a ≤ gM t) (fun a => gM t - a) (fun _ => dW G (wR t R)) (fun a => [(4, .int (nI a)), (2, .int (nI (sm R (fun _ => 1) a))), (3, .int (nI (sm R (fun o => 2 + gS t o) (gM t)))), (0, .ref (dH G)), (1, .int q)]) ?_ 0 (Nat.zero_le _)
  intro k hk9 ih
  refine gg_iload X dX3_count_10 0 rfl ?_
  refine gg_aload_n X dX3_count_12 rfl 3 rfl ?_
  refine gg_get X dX3_count_13 imX3 0 rfl rfl 4 (by decide) (am 147 rfl) rfl ?_
  refine gg_icmp_ge (tgt := 43) X dX3_count_16 (by decide) (fun c_16 => ?_) (fun c_16 => ?_)
  · have hkm : k = gM t := by have := (nI_leI (a := gM t) (b := k) (by omega) (by omega)).mp c_16; omega
    refine gg_iload_n X dX3_count_43 rfl 4 rfl ?_
    refine gg_if_ne (tgt := 51) X dX3_count_44 (by decide) (fun c_44 => ?_) (fun c_44 => ?_)
    · refine gg_iload_n X dX3_count_51 rfl 4 rfl ?_
      refine gg_iconst X dX3_count_52 (v := 1) (by decide) ?_
      refine gg_icmp_ne (tgt := 60) X dX3_count_53 (by decide) (fun c_53 => ?_) (fun c_53 => ?_)
      · refine gg_iload_n X dX3_count_60 rfl 4 rfl ?_
        refine gg_iconst X dX3_count_61 (v := 2) (by decide) ?_
        refine gg_icmp_ne (tgt := 72) X dX3_count_62 (by decide) (fun c_62 => ?_) (fun c_62 => ?_)
        · refine gg_iload_n X dX3_count_72 rfl 4 rfl ?_
          refine gg_iconst X dX3_count_73 (v := 3) (by decide) ?_
          refine gg_icmp_ne (tgt := 84) X dX3_count_74 (by decide) (fun c_74 => ?_) (fun c_74 => ?_)
          · refine gg_iload_n X dX3_count_84 rfl 4 rfl ?_
            refine gg_iconst X dX3_count_85 (v := 4) (by decide) ?_
            refine gg_icmp_ne (tgt := 96) X dX3_count_86 (by decide) (fun c_86 => ?_) (fun c_86 => ?_)
            · refine gg_iconst X dX3_count_96 (v := (-1)) (by decide) ?_
              exact gg_iret X dX3_count_97 hr hk (wR t R) (⟨R, hR, rfl, Or.inr (Or.inr (Or.inr (Or.inr (Or.inr ⟨c_44, c_53, c_62, c_74, c_86, rfl⟩))))⟩) rfl (Nat.le_of_ble_eq_true rfl) (Nat.le_of_ble_eq_true rfl)
            · refine gg_aload_n X dX3_count_89 rfl 3 rfl ?_
              refine gg_get X dX3_count_90 imX3 0 rfl rfl 7 (by decide) (am 150 rfl) rfl ?_
              refine gg_goto (tgt := 97) X dX3_count_93 (by decide) ?_
              exact gg_iret X dX3_count_97 hr hk (wR t R) (⟨R, hR, rfl, Or.inr (Or.inr (Or.inr (Or.inr (Or.inl ⟨c_86, rfl⟩))))⟩) rfl (Nat.le_of_ble_eq_true rfl) (Nat.le_of_ble_eq_true rfl)
          · refine gg_aload_n X dX3_count_77 rfl 3 rfl ?_
            refine gg_get X dX3_count_78 imX3 0 rfl rfl 4 (by decide) (am 147 rfl) rfl ?_
            refine gg_goto (tgt := 97) X dX3_count_81 (by decide) ?_
            exact gg_iret X dX3_count_97 hr hk (wR t R) (⟨R, hR, rfl, Or.inr (Or.inr (Or.inr (Or.inl ⟨c_74, rfl⟩)))⟩) rfl (Nat.le_of_ble_eq_true rfl) (Nat.le_of_ble_eq_true rfl)
        · refine gg_aload_n X dX3_count_65 rfl 3 rfl ?_
          refine gg_get X dX3_count_66 imX3 0 rfl rfl 3 (by decide) (am 146 rfl) rfl ?_
          refine gg_goto (tgt := 97) X dX3_count_69 (by decide) ?_
          exact gg_iret X dX3_count_97 hr hk (wR t R) (⟨R, hR, rfl, Or.inr (Or.inr (Or.inl ⟨c_62, rfl⟩))⟩) rfl (Nat.le_of_ble_eq_true rfl) (Nat.le_of_ble_eq_true rfl)
      · refine gg_iload_n X dX3_count_56 rfl 1 rfl ?_
        refine gg_goto (tgt := 97) X dX3_count_57 (by decide) ?_
        exact gg_iret X dX3_count_97 hr hk (wR t R) (⟨R, hR, rfl, Or.inr (Or.inl ⟨c_53, by rw [hkm]⟩)⟩) rfl (Nat.le_of_ble_eq_true rfl) (Nat.le_of_ble_eq_true rfl)
    · refine gg_iload_n X dX3_count_47 rfl 2 rfl ?_
      refine gg_goto (tgt := 97) X dX3_count_48 (by decide) ?_
      exact gg_iret X dX3_count_97 hr hk (wR t R) (⟨R, hR, rfl, Or.inl ⟨c_44, rfl⟩⟩) rfl (Nat.le_of_ble_eq_true rfl) (Nat.le_of_ble_eq_true rfl)
  · have hk8 : ¬ gM t ≤ k := fun h => c_16 ((nI_leI (a := gM t) (b := k) (by omega) (by omega)).mpr h)
    refine gg_aload_n X dX3_count_19 rfl 3 rfl ?_
    refine gg_get X dX3_count_20 imX3 0 rfl rfl 6 (by decide) (am 149 rfl) rfl ?_
    refine gg_iload X dX3_count_23 0 rfl ?_
    refine gg_zald X dX3_count_25 4 2 rfl rfl k rfl (by omega) (by decide) ?_
    refine gg_if_eq (tgt := 35) X dX3_count_26 (by decide) (fun c_26 => ?_) (fun c_26 => ?_)
    · have hrk : R k = false := bI_0 c_26
      refine gg_iload_n X dX3_count_35 rfl 1 rfl ?_
      refine gg_istore_n X dX3_count_36 rfl (by decide) rfl ?_
      refine gg_iinc X dX3_count_37 1 rfl (nI_1 _) (by decide) rfl ?_
      refine gg_goto (tgt := 10) X dX3_count_40 (by decide) ?_
      refine gg_lve (lv' := [(4, .int (nI (k + 1))), (2, .int (nI (sm R (fun _ => 1) (k + 1)))), (3, .int (nI (sm R (fun o => 2 + gS t o) (gM t)))), (0, .ref (dH G)), (1, .int q)]) (by simp only [sm]; (first | rw [if_pos hrk] | rw [if_neg (by rw [hrk]; decide)]); rfl) ?_
      exact ih (k + 1) (by omega) (by omega)
    · have hrk : R k = true := bI_1 c_26
      refine gg_iload_n X dX3_count_29 rfl 1 rfl ?_
      refine gg_iconst X dX3_count_30 (v := 1) (by decide) ?_
      refine gg_iadd X dX3_count_31 (nI_1 _) ?_
      refine gg_goto (tgt := 36) X dX3_count_32 (by decide) ?_
      refine gg_istore_n X dX3_count_36 rfl (by decide) rfl ?_
      refine gg_iinc X dX3_count_37 1 rfl (nI_1 _) (by decide) rfl ?_
      refine gg_goto (tgt := 10) X dX3_count_40 (by decide) ?_
      refine gg_lve (lv' := [(4, .int (nI (k + 1))), (2, .int (nI (sm R (fun _ => 1) (k + 1)))), (3, .int (nI (sm R (fun o => 2 + gS t o) (gM t)))), (0, .ref (dH G)), (1, .int q)]) (by simp only [sm]; (first | rw [if_pos hrk] | rw [if_neg (by rw [hrk]; decide)]); rfl) ?_
      exact ih (k + 1) (by omega) (by omega)
