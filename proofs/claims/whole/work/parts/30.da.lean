set_option maxHeartbeats 4000000 in
set_option maxRecDepth 100000 in
theorem k_isRd (l : Launch) (D : va_G) (tys : List (ClassId × FieldType)) (ws : va_W) (r : Int32) : mG l yX3_isRegister wX3_isRegister ({ frames := 0, cells := 0, slots := 0, locals := 0 }) D vwCl tys [.int r] ws (qI D vwCl (fun (x : Int32) (_ : Unit) => (isR r ∧ x = 1) ∨ (¬ isR r ∧ x = 0)) (fun _ => ws)) := by
  refine gg_met (cc := cX3_isRegister) (nL := 1) (ret := (some .boolean)) (lv := [(0, .int r)]) (by decide) rfl rfl (Nat.le_of_ble_eq_true rfl) ?_
  intro p_ e_ s_ m_ bl_ me_ cc_ A_ X hr hk hnm
  refine gg_iload_n X dX3_isRegister_0 rfl 0 rfl ?_
  refine gg_if_lt (tgt := 14) X dX3_isRegister_1 (by decide) (fun c_1 => ?_) (fun c_1 => ?_)
  · refine gg_iconst X dX3_isRegister_14 (v := 0) (by decide) ?_
    exact gg_zret X dX3_isRegister_15 hr hk rfl () (Or.inr ⟨isR_no (Or.inl c_1), rfl⟩) rfl (Nat.le_of_ble_eq_true rfl) (Nat.le_of_ble_eq_true rfl)
  · refine gg_iload_n X dX3_isRegister_4 rfl 0 rfl ?_
    refine gg_bipush X dX3_isRegister_5 (v := nI 10) (by decide) ?_
    refine gg_icmp_ge (tgt := 14) X dX3_isRegister_7 (by decide) (fun c_7 => ?_) (fun c_7 => ?_)
    · refine gg_iconst X dX3_isRegister_14 (v := 0) (by decide) ?_
      exact gg_zret X dX3_isRegister_15 hr hk rfl () (Or.inr ⟨isR_no (Or.inr c_7), rfl⟩) rfl (Nat.le_of_ble_eq_true rfl) (Nat.le_of_ble_eq_true rfl)
    · refine gg_iconst X dX3_isRegister_10 (v := 1) (by decide) ?_
      refine gg_goto (tgt := 15) X dX3_isRegister_11 (by decide) ?_
      exact gg_zret X dX3_isRegister_15 hr hk rfl () (Or.inl ⟨isR_yes c_1 c_7, rfl⟩) rfl (Nat.le_of_ble_eq_true rfl) (Nat.le_of_ble_eq_true rfl)
set_option maxHeartbeats 4000000 in
set_option maxRecDepth 100000 in
theorem k_placeOf (l : Launch) (D : va_G) (tys : List (ClassId × FieldType)) (ws : va_W) (o k : Nat) : mG l yX3_placeOf wX3_placeOf ({ frames := 0, cells := 0, slots := 0, locals := 0 }) D vwCl tys [.int (nI o), .int (nI k)] ws (qI D vwCl (fun (x : Int32) (_ : Unit) => x = nI (pL o k)) (fun _ => ws)) := by
  refine gg_met (cc := cX3_placeOf) (nL := 2) (ret := (some .int)) (lv := [(0, .int (nI o)), (1, .int (nI k))]) (by decide) rfl rfl (Nat.le_of_ble_eq_true rfl) ?_
  intro p_ e_ s_ m_ bl_ me_ cc_ A_ X hr hk hnm
  refine gg_bipush X dX3_placeOf_0 (v := nI 60) (by decide) ?_
  refine gg_bipush X dX3_placeOf_2 (v := nI 20) (by decide) ?_
  refine gg_iload_n X dX3_placeOf_4 rfl 0 rfl ?_
  refine gg_imul X dX3_placeOf_5 rfl ?_
  refine gg_iadd X dX3_placeOf_6 rfl ?_
  refine gg_iload_n X dX3_placeOf_7 rfl 1 rfl ?_
  refine gg_iadd X dX3_placeOf_8 rfl ?_
  exact gg_iret X dX3_placeOf_9 hr hk () (pL_I) rfl (Nat.le_of_ble_eq_true rfl) (Nat.le_of_ble_eq_true rfl)
set_option maxHeartbeats 4000000 in
set_option maxRecDepth 100000 in
theorem k_hasObject (l : Launch) (D : va_G) (G : DF) (t : DS) (hk0 : dOk t) (r : Int32) : mG l yX3_hasObject wX3_hasObject ({ frames := 1, cells := 0, slots := 0, locals := 20 }) D vwCl (dT G) [.ref (dH G), .int r] (dW G t) (qI D vwCl (fun (x : Int32) (w : DS) => w = t ∧ (((∃ j o, j < 10 ∧ r = nI j ∧ gK t j = 2 ∧ o < gM t ∧ gV t j = nI o) ∧ x = 1) ∨ (¬ (∃ j o, j < 10 ∧ r = nI j ∧ gK t j = 2 ∧ o < gM t ∧ gV t j = nI o) ∧ x = 0))) (dW G)) := by
  refine gg_met (cc := cX3_hasObject) (nL := 2) (ret := (some .boolean)) (lv := [(0, .ref (dH G)), (1, .int r)]) (by decide) rfl rfl (Nat.le_of_ble_eq_true rfl) ?_
  intro p_ e_ s_ m_ bl_ me_ cc_ A_ X hr hk hnm
  refine gg_iload_n X dX3_hasObject_0 rfl 1 rfl ?_
  refine gc_i X (gr_S X dX3_hasObject_1 X.2.2.2.2.2.1 (k_isRd l D (dT G) (dW G t) r) (cwS 1 X.2.2.2.2.1 (gdS (al 165 rfl) (al 166 rfl) (al 4 rfl) (al 167 rfl)) rfl rfl rfl (by decide +kernel) ⟨Nat.le_of_ble_eq_true rfl, Nat.le_of_ble_eq_true rfl⟩) rfl rfl (Nat.le_of_ble_eq_true rfl) ⟨Nat.le_of_ble_eq_true rfl, Nat.le_of_ble_eq_true rfl⟩) (fun r_1 w_1 h_1 => ?_)
  refine gg_if_eq (tgt := 21) X dX3_hasObject_4 (by decide) (fun c_4 => ?_) (fun c_4 => ?_)
  · refine gg_iconst X dX3_hasObject_21 (v := 0) (by decide) ?_
    exact gg_zret X dX3_hasObject_22 hr hk rfl t (⟨rfl, Or.inr ⟨fun ⟨j, o, h1, h2, _⟩ => b01 h_1 c_4 ⟨j, h1, h2⟩, rfl⟩⟩) rfl (Nat.le_of_ble_eq_true rfl) (Nat.le_of_ble_eq_true rfl)
  · obtain ⟨j, hj, rfl⟩ := b01' h_1 c_4
    refine gg_aload_n X dX3_hasObject_7 rfl 0 rfl ?_
    refine gg_get X dX3_hasObject_8 imX3 0 rfl rfl 1 (by decide) (am 144 rfl) rfl ?_
    refine gg_iload_n X dX3_hasObject_11 rfl 1 rfl ?_
    refine gg_bald X dX3_hasObject_12 1 0 rfl rfl j rfl (by omega) (by decide) ?_
    refine gg_iconst X dX3_hasObject_13 (v := 2) (by decide) ?_
    refine gg_icmp_ne (tgt := 21) X dX3_hasObject_14 (by decide) (fun c_14 => ?_) (fun c_14 => ?_)
    · refine gg_iconst X dX3_hasObject_21 (v := 0) (by decide) ?_
      exact gg_zret X dX3_hasObject_22 hr hk rfl t (⟨rfl, Or.inr ⟨fun ⟨j', o, h1, h2, h3, _⟩ => by
          have e := r_inj (by omega) (by omega) h2
          subst e
          exact c_14 h3, rfl⟩⟩) rfl (Nat.le_of_ble_eq_true rfl) (Nat.le_of_ble_eq_true rfl)
    · refine gg_iconst X dX3_hasObject_17 (v := 1) (by decide) ?_
      refine gg_goto (tgt := 22) X dX3_hasObject_18 (by decide) ?_
      rcases hk0.2.2.2 j (Or.inl (by omega)) with ⟨h, -⟩ | h | ⟨h, o, ho, hv⟩
      · rw [h] at c_14; exact absurd c_14 (by decide)
      · rw [h] at c_14; exact absurd c_14 (by decide)
      · exact gg_zret X dX3_hasObject_22 hr hk rfl t (⟨rfl, Or.inl ⟨⟨j, o, hj, rfl, h, ho, hv⟩, rfl⟩⟩) rfl (Nat.le_of_ble_eq_true rfl) (Nat.le_of_ble_eq_true rfl)
set_option maxHeartbeats 4000000 in
set_option maxRecDepth 100000 in
theorem k_move (l : Launch) (D : va_G) (G : DF) (t : DS) (p q : Nat) (hp : p < 10460) (hq : q < 10460) (hb : vp_nar .byte (gK t q) = gK t q) : mG l yX3_move wX3_move ({ frames := 0, cells := 0, slots := 0, locals := 0 }) D vwCl (dT G) [.ref (dH G), .int (nI p), .int (nI q)] (dW G t) (qV D vwCl (fun (w : DS) => w = wV t (upd (gK t) p (gK t q)) (upd (gV t) p (gV t q))) (dW G)) := by
  refine gg_met (cc := cX3_move) (nL := 3) (ret := none) (lv := [(0, .ref (dH G)), (1, .int (nI p)), (2, .int (nI q))]) (by decide) rfl rfl (Nat.le_of_ble_eq_true rfl) ?_
  intro p_ e_ s_ m_ bl_ me_ cc_ A_ X hr hk hnm
  refine gg_aload_n X dX3_move_0 rfl 0 rfl ?_
  refine gg_get X dX3_move_1 imX3 0 rfl rfl 1 (by decide) (am 144 rfl) rfl ?_
  refine gg_iload_n X dX3_move_4 rfl 1 rfl ?_
  refine gg_aload_n X dX3_move_5 rfl 0 rfl ?_
  refine gg_get X dX3_move_6 imX3 0 rfl rfl 1 (by decide) (am 144 rfl) rfl ?_
  refine gg_iload_n X dX3_move_9 rfl 2 rfl ?_
  refine gg_bald X dX3_move_10 1 0 rfl rfl q rfl hq (by decide) ?_
  refine gg_bast X dX3_move_11 1 0 rfl rfl p rfl hp (by decide) hb (ws' := dW G (wV t (upd (gK t) p (gK t q)) (gV t))) rfl ?_
  refine gg_aload_n X dX3_move_12 rfl 0 rfl ?_
  refine gg_get X dX3_move_13 imX3 0 rfl rfl 2 (by decide) (am 145 rfl) rfl ?_
  refine gg_iload_n X dX3_move_16 rfl 1 rfl ?_
  refine gg_aload_n X dX3_move_17 rfl 0 rfl ?_
  refine gg_get X dX3_move_18 imX3 0 rfl rfl 2 (by decide) (am 145 rfl) rfl ?_
  refine gg_iload_n X dX3_move_21 rfl 2 rfl ?_
  refine gg_iald X dX3_move_22 2 1 rfl rfl q rfl hq (by decide) ?_
  refine gg_iast X dX3_move_23 2 1 rfl rfl p rfl hp (by decide) (ws' := dW G (wV t (upd (gK t) p (gK t q)) (upd (gV t) p (gV t q)))) rfl ?_
  exact gg_vret X dX3_move_24 hr hk (wV t (upd (gK t) p (gK t q)) (upd (gV t) p (gV t q))) (rfl) rfl (Nat.le_of_ble_eq_true rfl) (Nat.le_of_ble_eq_true rfl)
set_option maxHeartbeats 4000000 in
set_option maxRecDepth 100000 in
theorem k_empty (l : Launch) (D : va_G) (G : DF) (t : DS) (p : Nat) (hp : p < 10460) : mG l yX3_empty wX3_empty ({ frames := 0, cells := 0, slots := 0, locals := 0 }) D vwCl (dT G) [.ref (dH G), .int (nI p)] (dW G t) (qV D vwCl (fun (w : DS) => w = wV t (upd (gK t) p 0) (upd (gV t) p 0)) (dW G)) := by
  refine gg_met (cc := cX3_empty) (nL := 2) (ret := none) (lv := [(0, .ref (dH G)), (1, .int (nI p))]) (by decide) rfl rfl (Nat.le_of_ble_eq_true rfl) ?_
  intro p_ e_ s_ m_ bl_ me_ cc_ A_ X hr hk hnm
  refine gg_aload_n X dX3_empty_0 rfl 0 rfl ?_
  refine gg_get X dX3_empty_1 imX3 0 rfl rfl 1 (by decide) (am 144 rfl) rfl ?_
  refine gg_iload_n X dX3_empty_4 rfl 1 rfl ?_
  refine gg_iconst X dX3_empty_5 (v := 0) (by decide) ?_
  refine gg_bast X dX3_empty_6 1 0 rfl rfl p rfl hp (by decide) (by decide) (ws' := dW G (wV t (upd (gK t) p 0) (gV t))) rfl ?_
  refine gg_aload_n X dX3_empty_7 rfl 0 rfl ?_
  refine gg_get X dX3_empty_8 imX3 0 rfl rfl 2 (by decide) (am 145 rfl) rfl ?_
  refine gg_iload_n X dX3_empty_11 rfl 1 rfl ?_
  refine gg_iconst X dX3_empty_12 (v := 0) (by decide) ?_
  refine gg_iast X dX3_empty_13 2 1 rfl rfl p rfl hp (by decide) (ws' := dW G (wV t (upd (gK t) p 0) (upd (gV t) p 0))) rfl ?_
  exact gg_vret X dX3_empty_14 hr hk (wV t (upd (gK t) p 0) (upd (gV t) p 0)) (rfl) rfl (Nat.le_of_ble_eq_true rfl) (Nat.le_of_ble_eq_true rfl)
set_option maxHeartbeats 4000000 in
set_option maxRecDepth 100000 in
theorem k_reachd (l : Launch) (D : va_G) (G : DF) (t : DS) (hm : gM t ≤ 512) (p : Nat) (hp : p < 10460) (hl : gK t p = 2 → ∃ o, o < gM t ∧ gV t p = nI o) : mG l yX3_reach wX3_reach ({ frames := 0, cells := 0, slots := 0, locals := 0 }) D vwCl (dT G) [.ref (dH G), .int (nI p)] (dW G t) (qI D vwCl (fun (x : Int32) (w : DS) => ∃ R, w = wR t R ∧ gRh t (gR t) p x R) (dW G)) := by
  refine gg_met (cc := cX3_reach) (nL := 2) (ret := (some .boolean)) (lv := [(0, .ref (dH G)), (1, .int (nI p))]) (by decide) rfl rfl (Nat.le_of_ble_eq_true rfl) ?_
  intro p_ e_ s_ m_ bl_ me_ cc_ A_ X hr hk hnm
  refine gg_aload_n X dX3_reach_0 rfl 0 rfl ?_
  refine gg_get X dX3_reach_1 imX3 0 rfl rfl 1 (by decide) (am 144 rfl) rfl ?_
  refine gg_iload_n X dX3_reach_4 rfl 1 rfl ?_
  refine gg_bald X dX3_reach_5 1 0 rfl rfl p rfl hp (by decide) ?_
  refine gg_iconst X dX3_reach_6 (v := 2) (by decide) ?_
  refine gg_icmp_ne (tgt := 24) X dX3_reach_7 (by decide) (fun c_7 => ?_) (fun c_7 => ?_)
  · refine gg_iconst X dX3_reach_24 (v := 0) (by decide) ?_
    exact gg_zret X dX3_reach_25 hr hk rfl t (⟨gR t, rfl, Or.inr ⟨fun h => absurd h c_7, rfl, rfl⟩⟩) rfl (Nat.le_of_ble_eq_true rfl) (Nat.le_of_ble_eq_true rfl)
  · obtain ⟨o, ho, hv⟩ := hl c_7
    refine gg_aload_n X dX3_reach_10 rfl 0 rfl ?_
    refine gg_get X dX3_reach_11 imX3 0 rfl rfl 6 (by decide) (am 149 rfl) rfl ?_
    refine gg_aload_n X dX3_reach_14 rfl 0 rfl ?_
    refine gg_get X dX3_reach_15 imX3 0 rfl rfl 2 (by decide) (am 145 rfl) rfl ?_
    refine gg_iload_n X dX3_reach_18 rfl 1 rfl ?_
    refine gg_iald X dX3_reach_19 2 1 rfl rfl p rfl hp (by decide) ?_
    rw [hv]
    refine gg_zald X dX3_reach_20 4 2 rfl rfl o rfl (by omega) (by decide) ?_
    refine gg_if_eq (tgt := 26) X dX3_reach_21 (by decide) (fun c_21 => ?_) (fun c_21 => ?_)
    · refine gg_aload_n X dX3_reach_26 rfl 0 rfl ?_
      refine gg_get X dX3_reach_27 imX3 0 rfl rfl 6 (by decide) (am 149 rfl) rfl ?_
      refine gg_aload_n X dX3_reach_30 rfl 0 rfl ?_
      refine gg_get X dX3_reach_31 imX3 0 rfl rfl 2 (by decide) (am 145 rfl) rfl ?_
      refine gg_iload_n X dX3_reach_34 rfl 1 rfl ?_
      refine gg_iald X dX3_reach_35 2 1 rfl rfl p rfl hp (by decide) ?_
      refine gg_iconst X dX3_reach_36 (v := bI true) (by decide) ?_
      rw [hv]
      refine gg_zast X dX3_reach_37 4 2 rfl rfl o rfl (by omega) (by decide) (by decide) (ws' := dW G (wR t (va_up (gR t) o true))) (by rw [upd_bI]; rfl) ?_
      refine gg_iconst X dX3_reach_38 (v := 1) (by decide) ?_
      exact gg_zret X dX3_reach_39 hr hk rfl (wR t (va_up (gR t) o true)) (⟨_, rfl, Or.inl ⟨o, ho, c_7, hv, bI_0 c_21, rfl, rfl⟩⟩) rfl (Nat.le_of_ble_eq_true rfl) (Nat.le_of_ble_eq_true rfl)
    · refine gg_iconst X dX3_reach_24 (v := 0) (by decide) ?_
      exact gg_zret X dX3_reach_25 hr hk rfl t (⟨gR t, rfl, Or.inr ⟨fun _ => ⟨o, ho, hv, bI_1 c_21⟩, rfl, rfl⟩⟩) rfl (Nat.le_of_ble_eq_true rfl) (Nat.le_of_ble_eq_true rfl)
set_option maxHeartbeats 4000000 in
set_option maxRecDepth 100000 in
theorem k_goOver (l : Launch) (D : va_G) (G : DF) (t : DS) (hk0 : dOk t)  : mG l yX3_goOver wX3_goOver ({ frames := 1, cells := 0, slots := 0, locals := 21 }) D vwCl (dT G) [.ref (dH G)] (dW G t) (qV D vwCl (fun (w : DS) => ∃ R, w = wR t R ∧ DW t R) (dW G)) := by
  refine gg_met (cc := cX3_goOver) (nL := 4) (ret := none) (lv := [(0, .ref (dH G))]) (by decide) rfl rfl (Nat.le_of_ble_eq_true rfl) ?_
  intro p_ e_ s_ m_ bl_ me_ cc_ A_ X hr hk hnm
  have hm := hk0.2.1
  have h50 := hk0.1
  refine gg_iconst X dX3_goOver_0 (v := nI 0) (by decide) ?_
  refine gg_istore_n X dX3_goOver_1 rfl (by decide) rfl ?_
  refine gg_loop (ι := Nat × (Nat → Bool)) (fun a => a.1 ≤ gM t ∧ ∀ k, k < a.1 → a.2 k = false) (fun a => gM t - a.1) (fun a => dW G (wR t a.2)) (fun a => [(1, .int (nI a.1)), (0, .ref (dH G))]) ?_ (0, gR t) ⟨Nat.zero_le _, fun k hk => absurd hk (Nat.not_lt_zero k)⟩
  intro a ha ih1
  obtain ⟨q, R⟩ := a
  obtain ⟨h1, h2⟩ := ha
  have h1 : q ≤ gM t := h1
  have h2 : ∀ k, k < q → R k = false := h2
  refine gg_iload_n X dX3_goOver_2 rfl 0 rfl ?_
  refine gg_aload_n X dX3_goOver_3 rfl 1 rfl ?_
  refine gg_get X dX3_goOver_4 imX3 0 rfl rfl 4 (by decide) (am 147 rfl) rfl ?_
  refine gg_icmp_ge (tgt := 23) X dX3_goOver_7 (by decide) (fun c_7 => ?_) (fun c_7 => ?_)
  · have hq2 : gM t ≤ q := (nI_leI (a := gM t) (b := q) (by omega) (by omega)).mp c_7
    refine gg_iconst X dX3_goOver_23 (v := nI 0) (by decide) ?_
    refine gg_istore_n X dX3_goOver_24 rfl (by decide) rfl ?_
    refine gg_loop (ι := Nat × (Nat → Bool)) (fun a => a.1 ≤ 10 + gT t ∧ gSd t a.2 ∧ gRt t a.2 a.1) (fun a => 10 + gT t - a.1) (fun a => dW G (wR t a.2)) (fun a => [(1, .int (nI a.1)), (0, .ref (dH G))]) ?_ (0, R) ⟨Nat.zero_le _, fun o ho hr => absurd (show R o = true from hr) (by rw [h2 o (by omega)]; decide), fun p hp => absurd hp (Nat.not_lt_zero p)⟩
    clear ih1
    intro a ha ih2
    obtain ⟨z, R2⟩ := a
    obtain ⟨h3, h4, h5⟩ := ha
    have h3 : z ≤ 10 + gT t := h3
    have h4 : gSd t R2 := h4
    have h5 : gRt t R2 z := h5
    refine gg_iload_n X dX3_goOver_25 rfl 0 rfl ?_
    refine gg_bipush X dX3_goOver_26 (v := nI 10) (by decide) ?_
    refine gg_aload_n X dX3_goOver_28 rfl 1 rfl ?_
    refine gg_get X dX3_goOver_29 imX3 0 rfl rfl 3 (by decide) (am 146 rfl) rfl ?_
    refine gg_iadd X dX3_goOver_32 (nI_add _ _) ?_
    refine gg_icmp_ge (tgt := 48) X dX3_goOver_33 (by decide) (fun c_33 => ?_) (fun c_33 => ?_)
    · have hz : z = 10 + gT t := by have := (nI_leI (a := 10 + gT t) (b := z) (by omega) (by omega)).mp c_33; omega
      refine gg_iconst X dX3_goOver_48 (v := bI true) (by decide) ?_
      refine gg_istore_n X dX3_goOver_49 rfl (by decide) rfl ?_
      refine gg_loop (ι := (Nat → Bool) × Bool) (fun a => gWh t a.1 a.2) (fun a => (if a.2 = true then 1 else 0) + 2 * (gM t - sm a.1 (fun _ => 1) (gM t))) (fun a => dW G (wR t a.1)) (fun a => [(1, .int (bI a.2)), (0, .ref (dH G))]) ?_ (R2, true) ⟨h4, by rw [hz] at h5; exact h5, fun h => by cases h⟩
      clear ih2
      intro a ha ih3
      obtain ⟨R0, b0⟩ := a
      have ha : gWh t R0 b0 := ha
      refine gg_iload_n X dX3_goOver_50 rfl 0 rfl ?_
      refine gg_if_eq (tgt := 124) X dX3_goOver_51 (by decide) (fun c_51 => ?_) (fun c_51 => ?_)
      · have hb0 : b0 = false := bI_0 c_51
        exact gg_vret X dX3_goOver_124 hr hk (wR t R0) (⟨R0, rfl, DW.of ha.1 ha.2.1 (ha.2.2 hb0)⟩) rfl (Nat.le_of_ble_eq_true rfl) (Nat.le_of_ble_eq_true rfl)
      · have hb0 : b0 = true := bI_1 c_51
        refine gg_iconst X dX3_goOver_54 (v := bI false) (by decide) ?_
        refine gg_istore_n X dX3_goOver_55 rfl (by decide) rfl ?_
        refine gg_iconst X dX3_goOver_56 (v := nI 0) (by decide) ?_
        refine gg_istore_n X dX3_goOver_57 rfl (by decide) rfl ?_
        refine gg_loop (ι := Nat × (Nat → Bool) × Bool) (fun a => a.1 ≤ gM t ∧ gPs t R0 a.1 0 a.2.1 a.2.2) (fun a => gM t - a.1) (fun a => dW G (wR t a.2.1)) (fun a => [(2, .int (nI a.1)), (1, .int (bI a.2.2)), (0, .ref (dH G))]) ?_ (0, R0, false) ⟨Nat.zero_le _, gPs.start ha.1⟩
        intro a hb ih4
        obtain ⟨k, R4, b4⟩ := a
        obtain ⟨h8, h7⟩ := hb
        have h8 : k ≤ gM t := h8
        have h7 : gPs t R0 k 0 R4 b4 := h7
        refine gg_iload_n X dX3_goOver_58 rfl 0 rfl ?_
        refine gg_aload_n X dX3_goOver_59 rfl 2 rfl ?_
        refine gg_get X dX3_goOver_60 imX3 0 rfl rfl 4 (by decide) (am 147 rfl) rfl ?_
        refine gg_icmp_ge (tgt := 121) X dX3_goOver_63 (by decide) (fun c_63 => ?_) (fun c_63 => ?_)
        · have hk9 : gM t ≤ k := (nI_leI (a := gM t) (b := k) (by omega) (by omega)).mp c_63
          have e : k = gM t := by omega
          subst e
          refine gg_goto (tgt := 50) X dX3_goOver_121 (by decide) ?_
          refine gg_lv [1, 2] rfl ?_
          exact ih3 (R4, b4) (ha.pass h7) (by
            show (if b4 = true then 1 else 0) + 2 * (gM t - sm R4 (fun _ => 1) (gM t)) < (if b0 = true then 1 else 0) + 2 * (gM t - sm R0 (fun _ => 1) (gM t))
            rw [hb0, if_pos rfl]
            exact gWh.less h7)
        · have hk9 : ¬ gM t ≤ k := fun h => c_63 ((nI_leI (a := gM t) (b := k) (by omega) (by omega)).mpr h)
          refine gg_iconst X dX3_goOver_66 (v := nI 0) (by decide) ?_
          refine gg_istore_n X dX3_goOver_67 rfl (by decide) rfl ?_
          refine gg_loop (ι := Nat × (Nat → Bool) × Bool) (fun a => a.1 ≤ gS t k ∧ gPs t R0 k a.1 a.2.1 a.2.2) (fun a => gS t k - a.1) (fun a => dW G (wR t a.2.1)) (fun a => [(3, .int (nI a.1)), (2, .int (nI k)), (1, .int (bI a.2.2)), (0, .ref (dH G))]) ?_ (0, R4, b4) ⟨Nat.zero_le _, h7⟩
          intro a hb ih5
          obtain ⟨i, R5, b5⟩ := a
          obtain ⟨h10, h9⟩ := hb
          have h10 : i ≤ gS t k := h10
          have h9 : gPs t R0 k i R5 b5 := h9
          have h20 := hk0.2.2.1 k (by omega)
          refine gg_iload_n X dX3_goOver_68 rfl 0 rfl ?_
          refine gg_aload_n X dX3_goOver_69 rfl 3 rfl ?_
          refine gg_get X dX3_goOver_70 imX3 0 rfl rfl 5 (by decide) (am 148 rfl) rfl ?_
          refine gg_iload_n X dX3_goOver_73 rfl 1 rfl ?_
          refine gg_iald X dX3_goOver_74 3 1 rfl rfl k rfl (by omega) (by decide) ?_
          refine gg_icmp_ge (tgt := 115) X dX3_goOver_75 (by decide) (fun c_75 => ?_) (fun c_75 => ?_)
          · have hend : gS t k ≤ i ∨ R5 k = false := Or.inl ((nI_leI (a := gS t k) (b := i) (by omega) (by omega)).mp c_75)
            refine gg_iinc X dX3_goOver_115 1 rfl (nI_1 _) (by decide) rfl ?_
            refine gg_goto (tgt := 58) X dX3_goOver_118 (by decide) ?_
            refine gg_lv [0, 2, 3] rfl ?_
            exact ih4 (k + 1, R5, b5) ⟨by show k + 1 ≤ gM t; omega, h9.next hend⟩ (by show gM t - (k + 1) < gM t - k; omega)
          · have hi9 : ¬ gS t k ≤ i := fun h => c_75 ((nI_leI (a := gS t k) (b := i) (by omega) (by omega)).mpr h)
            refine gg_aload_n X dX3_goOver_78 rfl 3 rfl ?_
            refine gg_get X dX3_goOver_79 imX3 0 rfl rfl 6 (by decide) (am 149 rfl) rfl ?_
            refine gg_iload_n X dX3_goOver_82 rfl 1 rfl ?_
            refine gg_zald X dX3_goOver_83 4 2 rfl rfl k rfl (by omega) (by decide) ?_
            refine gg_if_eq (tgt := 115) X dX3_goOver_84 (by decide) (fun c_84 => ?_) (fun c_84 => ?_)
            · have hend : gS t k ≤ i ∨ R5 k = false := Or.inr (bI_0 c_84)
              refine gg_iinc X dX3_goOver_115 1 rfl (nI_1 _) (by decide) rfl ?_
              refine gg_goto (tgt := 58) X dX3_goOver_118 (by decide) ?_
              refine gg_lv [0, 2, 3] rfl ?_
              exact ih4 (k + 1, R5, b5) ⟨by show k + 1 ≤ gM t; omega, h9.next hend⟩ (by show gM t - (k + 1) < gM t - k; omega)
            · have hrk : R5 k = true := bI_1 c_84
              refine gg_aload_n X dX3_goOver_87 rfl 3 rfl ?_
              refine gg_iload_n X dX3_goOver_88 rfl 1 rfl ?_
              refine gg_iload_n X dX3_goOver_89 rfl 0 rfl ?_
              refine gc_i X (gr_S X dX3_goOver_90 X.2.2.2.2.2.1 (k_placeOf l D (dT G) (dW G (wR t R5)) k i) (cwS 2 X.2.2.2.2.1 (gdS (al 180 rfl) (al 181 rfl) (al 4 rfl) (al 182 rfl)) rfl rfl rfl (by decide +kernel) ⟨Nat.le_of_ble_eq_true rfl, Nat.le_of_ble_eq_true rfl⟩) rfl rfl (Nat.le_of_ble_eq_true rfl) ⟨Nat.le_of_ble_eq_true rfl, Nat.le_of_ble_eq_true rfl⟩) (fun r_90 w_90 h_90 => ?_)
              rw [h_90]
              refine gc_i X (gr_V (q0 := 0) X dX3_goOver_93 X.2.2.2.2.2.1 (k_reachd l D G (wR t R5) hm (pL k i) (pL_lt hk0 (by omega) (by omega)) (fun k2 => by
                  rcases hk0.2.2.2 (pL k i) (Or.inr ⟨k, i, by omega, by omega, rfl⟩) with ⟨h, -⟩ | h | ⟨h, o, ho, hv⟩
                  · exact absurd (h.symm.trans k2) (by decide)
                  · exact absurd (h.symm.trans k2) (by decide)
                  · exact ⟨o, ho, hv⟩)) (cwV 1 X.2.2.2.2.1 (gdV (al 177 rfl) (al 178 rfl) (al 247 rfl) (al 4 rfl) (al 179 rfl)) rfl rfl rfl (by decide +kernel) ⟨Nat.le_of_ble_eq_true rfl, Nat.le_of_ble_eq_true rfl⟩) rfl rfl rfl rfl rfl (Nat.le_of_ble_eq_true rfl) ⟨Nat.le_of_ble_eq_true rfl, Nat.le_of_ble_eq_true rfl⟩) (fun r_93 w_93 h_93 => ?_)
              obtain ⟨R6, ew, h11⟩ := h_93
              rw [ew]
              have h11 : gRh t R5 (pL k i) r_93 R6 := h11
              refine gg_if_ne (tgt := 103) X dX3_goOver_96 (by decide) (fun c_96 => ?_) (fun c_96 => ?_)
              · refine gg_iconst X dX3_goOver_103 (v := bI (decide (¬ r_93 = 0) || b5)) (by rw [decide_eq_true c_96]; rfl) ?_
                refine gg_goto (tgt := 108) X dX3_goOver_104 (by decide) ?_
                refine gg_istore_n X dX3_goOver_108 rfl (by decide) rfl ?_
                refine gg_iinc X dX3_goOver_109 1 rfl (nI_1 _) (by decide) rfl ?_
                refine gg_goto (tgt := 68) X dX3_goOver_112 (by decide) ?_
                refine gg_lv [0, 2, 1, 3] rfl ?_
                exact ih5 (i + 1, R6, _) ⟨by show i + 1 ≤ gS t k; omega, h9.step hm (by omega) (by omega) hrk h11⟩ (by show gS t k - (i + 1) < gS t k - i; omega)
              · refine gg_iload_n X dX3_goOver_99 rfl 2 rfl ?_
                refine gg_if_eq (tgt := 107) X dX3_goOver_100 (by decide) (fun c_100 => ?_) (fun c_100 => ?_)
                · refine gg_iconst X dX3_goOver_107 (v := bI (decide (¬ r_93 = 0) || b5)) (by rw [show b5 = false from bI_0 c_100, c_96]; rfl) ?_
                  refine gg_istore_n X dX3_goOver_108 rfl (by decide) rfl ?_
                  refine gg_iinc X dX3_goOver_109 1 rfl (nI_1 _) (by decide) rfl ?_
                  refine gg_goto (tgt := 68) X dX3_goOver_112 (by decide) ?_
                  refine gg_lv [0, 2, 1, 3] rfl ?_
                  exact ih5 (i + 1, R6, _) ⟨by show i + 1 ≤ gS t k; omega, h9.step hm (by omega) (by omega) hrk h11⟩ (by show gS t k - (i + 1) < gS t k - i; omega)
                · refine gg_iconst X dX3_goOver_103 (v := bI (decide (¬ r_93 = 0) || b5)) (by rw [show b5 = true from bI_1 c_100, Bool.or_true]; rfl) ?_
                  refine gg_goto (tgt := 108) X dX3_goOver_104 (by decide) ?_
                  refine gg_istore_n X dX3_goOver_108 rfl (by decide) rfl ?_
                  refine gg_iinc X dX3_goOver_109 1 rfl (nI_1 _) (by decide) rfl ?_
                  refine gg_goto (tgt := 68) X dX3_goOver_112 (by decide) ?_
                  refine gg_lv [0, 2, 1, 3] rfl ?_
                  exact ih5 (i + 1, R6, _) ⟨by show i + 1 ≤ gS t k; omega, h9.step hm (by omega) (by omega) hrk h11⟩ (by show gS t k - (i + 1) < gS t k - i; omega)
    · have hz : ¬ 10 + gT t ≤ z := fun h => c_33 ((nI_leI (a := 10 + gT t) (b := z) (by omega) (by omega)).mpr h)
      refine gg_aload_n X dX3_goOver_36 rfl 1 rfl ?_
      refine gg_iload_n X dX3_goOver_37 rfl 0 rfl ?_
      refine gc_i X (gr_V (q0 := 0) X dX3_goOver_38 X.2.2.2.2.2.1 (k_reachd l D G (wR t R2) hm z (by omega) (fun k2 => by
          rcases hk0.2.2.2 z (Or.inl (by omega)) with ⟨h, -⟩ | h | ⟨h, o, ho, hv⟩
          · exact absurd (h.symm.trans k2) (by decide)
          · exact absurd (h.symm.trans k2) (by decide)
          · exact ⟨o, ho, hv⟩)) (cwV 1 X.2.2.2.2.1 (gdV (al 177 rfl) (al 178 rfl) (al 247 rfl) (al 4 rfl) (al 179 rfl)) rfl rfl rfl (by decide +kernel) ⟨Nat.le_of_ble_eq_true rfl, Nat.le_of_ble_eq_true rfl⟩) rfl rfl rfl rfl rfl (Nat.le_of_ble_eq_true rfl) ⟨Nat.le_of_ble_eq_true rfl, Nat.le_of_ble_eq_true rfl⟩) (fun r_38 w_38 h_38 => ?_)
      obtain ⟨R3, ew, h6⟩ := h_38
      rw [ew]
      have h6 : gRh t R2 z r_38 R3 := h6
      refine gg_pop X dX3_goOver_41 rfl ?_
      refine gg_iinc X dX3_goOver_42 0 rfl (nI_1 _) (by decide) rfl ?_
      refine gg_goto (tgt := 25) X dX3_goOver_45 (by decide) ?_
      exact ih2 (z + 1, R3) ⟨by show z + 1 ≤ 10 + gT t; omega, h6.sound h4 (fun o ho k2 kv => dRe.root ho ⟨z, by omega, k2, kv⟩), fun p hp o ho k2 kv => by
        have hp : p < z + 1 := hp
        by_cases e : p = z
        · rw [e] at k2 kv; exact h6.here hm ho k2 kv
        · exact h6.mono (h5 p (by omega) o ho k2 kv)⟩ (by show 10 + gT t - (z + 1) < 10 + gT t - z; omega)
  · have hq2 : ¬ gM t ≤ q := fun h => c_7 ((nI_leI (a := gM t) (b := q) (by omega) (by omega)).mpr h)
    refine gg_aload_n X dX3_goOver_10 rfl 1 rfl ?_
    refine gg_get X dX3_goOver_11 imX3 0 rfl rfl 6 (by decide) (am 149 rfl) rfl ?_
    refine gg_iload_n X dX3_goOver_14 rfl 0 rfl ?_
    refine gg_iconst X dX3_goOver_15 (v := bI false) (by decide) ?_
    refine gg_zast X dX3_goOver_16 4 2 rfl rfl q rfl (by omega) (by decide) (by decide) (ws' := dW G (wR t (va_up R q false))) (by rw [upd_bI]; rfl) ?_
    refine gg_iinc X dX3_goOver_17 0 rfl (nI_1 _) (by decide) rfl ?_
    refine gg_goto (tgt := 2) X dX3_goOver_20 (by decide) ?_
    exact ih1 (q + 1, va_up R q false) ⟨by show q + 1 ≤ gM t; omega, fun k hk => by
      show va_up R q false k = false
      have hk : k < q + 1 := hk
      by_cases e : k = q
      · rw [e, va_up_self]
      · rw [va_up_ne _ _ e]; exact h2 k (by omega)⟩ (by show gM t - (q + 1) < gM t - q; omega)
set_option maxHeartbeats 4000000 in
set_option maxRecDepth 100000 in
theorem k_reachable (l : Launch) (D : va_G) (G : DF) (t : DS) (hk0 : dOk t)  : mG l yX3_reachable wX3_reachable ({ frames := 2, cells := 0, slots := 0, locals := 44 }) D vwCl (dT G) [.ref (dH G)] (dW G t) (qI D vwCl (fun (x : Int32) (w : DS) => ∃ R, DW t R ∧ w = wR t R ∧ x = nI (sm R (fun o => 2 + gS t o) (gM t))) (dW G)) := by
  refine gg_met (cc := cX3_reachable) (nL := 3) (ret := (some .int)) (lv := [(0, .ref (dH G))]) (by decide) rfl rfl (Nat.le_of_ble_eq_true rfl) ?_
  intro p_ e_ s_ m_ bl_ me_ cc_ A_ X hr hk hnm
  have hm := hk0.2.1
  refine gg_aload_n X dX3_reachable_0 rfl 0 rfl ?_
  refine gc_v X (gr_V (q0 := 0) X dX3_reachable_1 X.2.2.2.2.2.1 (k_goOver l D G t hk0) (cwV 0 X.2.2.2.2.1 (gdV (al 174 rfl) (al 175 rfl) (al 246 rfl) (al 4 rfl) (al 176 rfl)) rfl rfl rfl (by decide +kernel) ⟨Nat.le_of_ble_eq_true rfl, Nat.le_of_ble_eq_true rfl⟩) rfl rfl rfl rfl rfl (Nat.le_of_ble_eq_true rfl) ⟨Nat.le_of_ble_eq_true rfl, Nat.le_of_ble_eq_true rfl⟩) (fun w_1 h_1 => ?_)
  obtain ⟨R, ew, hR⟩ := h_1
  rw [ew]
  refine gg_iconst X dX3_reachable_4 (v := nI 0) (by decide) ?_
  refine gg_istore_n X dX3_reachable_5 rfl (by decide) rfl ?_
  refine gg_iconst X dX3_reachable_6 (v := nI 0) (by decide) ?_
  refine gg_istore_n X dX3_reachable_7 rfl (by decide) rfl ?_
  refine gg_loop (ι := Nat) (fun a => a ≤ gM t) (fun a => gM t - a) (fun _ => dW G (wR t R)) (fun a => [(2, .int (nI a)), (1, .int (nI (sm R (fun o => 2 + gS t o) a))), (0, .ref (dH G))]) ?_ 0 (Nat.zero_le _)
  intro k hk9 ih
  refine gg_iload_n X dX3_reachable_8 rfl 0 rfl ?_
  refine gg_aload_n X dX3_reachable_9 rfl 2 rfl ?_
  refine gg_get X dX3_reachable_10 imX3 0 rfl rfl 4 (by decide) (am 147 rfl) rfl ?_
  refine gg_icmp_ge (tgt := 46) X dX3_reachable_13 (by decide) (fun c_13 => ?_) (fun c_13 => ?_)
  · have hkm : k = gM t := by have := (nI_leI (a := gM t) (b := k) (by omega) (by omega)).mp c_13; omega
    refine gg_iload_n X dX3_reachable_46 rfl 1 rfl ?_
    exact gg_iret X dX3_reachable_47 hr hk (wR t R) (⟨R, hR, rfl, by rw [hkm]⟩) rfl (Nat.le_of_ble_eq_true rfl) (Nat.le_of_ble_eq_true rfl)
  · have hk8 : ¬ gM t ≤ k := fun h => c_13 ((nI_leI (a := gM t) (b := k) (by omega) (by omega)).mpr h)
    refine gg_aload_n X dX3_reachable_16 rfl 2 rfl ?_
    refine gg_get X dX3_reachable_17 imX3 0 rfl rfl 6 (by decide) (am 149 rfl) rfl ?_
    refine gg_iload_n X dX3_reachable_20 rfl 0 rfl ?_
    refine gg_zald X dX3_reachable_21 4 2 rfl rfl k rfl (by omega) (by decide) ?_
    refine gg_if_eq (tgt := 38) X dX3_reachable_22 (by decide) (fun c_22 => ?_) (fun c_22 => ?_)
    · have hrk : R k = false := bI_0 c_22
      refine gg_iload_n X dX3_reachable_38 rfl 1 rfl ?_
      refine gg_istore_n X dX3_reachable_39 rfl (by decide) rfl ?_
      refine gg_iinc X dX3_reachable_40 1 rfl (nI_1 _) (by decide) rfl ?_
      refine gg_goto (tgt := 8) X dX3_reachable_43 (by decide) ?_
      refine gg_lve (lv' := [(2, .int (nI (k + 1))), (1, .int (nI (sm R (fun o => 2 + gS t o) (k + 1)))), (0, .ref (dH G))]) (by simp only [sm]; (first | rw [if_pos hrk] | rw [if_neg (by rw [hrk]; decide)]); rfl) ?_
      exact ih (k + 1) (by omega) (by omega)
    · have hrk : R k = true := bI_1 c_22
      refine gg_iload_n X dX3_reachable_25 rfl 1 rfl ?_
      refine gg_iconst X dX3_reachable_26 (v := nI 2) (by decide) ?_
      refine gg_iadd X dX3_reachable_27 (nI_add _ _) ?_
      refine gg_aload_n X dX3_reachable_28 rfl 2 rfl ?_
      refine gg_get X dX3_reachable_29 imX3 0 rfl rfl 5 (by decide) (am 148 rfl) rfl ?_
      refine gg_iload_n X dX3_reachable_32 rfl 0 rfl ?_
      refine gg_iald X dX3_reachable_33 3 1 rfl rfl k rfl (by omega) (by decide) ?_
      refine gg_iadd X dX3_reachable_34 (v := nI (sm R (fun o => 2 + gS t o) k + (2 + gS t k))) (by rw [nI_add, Nat.add_assoc]) ?_
      refine gg_goto (tgt := 39) X dX3_reachable_35 (by decide) ?_
      refine gg_istore_n X dX3_reachable_39 rfl (by decide) rfl ?_
      refine gg_iinc X dX3_reachable_40 1 rfl (nI_1 _) (by decide) rfl ?_
      refine gg_goto (tgt := 8) X dX3_reachable_43 (by decide) ?_
      refine gg_lve (lv' := [(2, .int (nI (k + 1))), (1, .int (nI (sm R (fun o => 2 + gS t o) (k + 1)))), (0, .ref (dH G))]) (by simp only [sm]; (first | rw [if_pos hrk] | rw [if_neg (by rw [hrk]; decide)]); rfl) ?_
      exact ih (k + 1) (by omega) (by omega)
set_option maxHeartbeats 4000000 in
set_option maxRecDepth 100000 in
theorem k_hasRoom (l : Launch) (D : va_G) (G : DF) (t : DS) (hk0 : dOk t) (hC : dC G ≤ 3000) (n : Nat) (hn : n ≤ 22) : mG l yX3_hasRoom wX3_hasRoom ({ frames := 3, cells := 0, slots := 0, locals := 66 }) D vwCl (dT G) [.ref (dH G), .int (nI n)] (dW G t) (qI D vwCl (fun (x : Int32) (w : DS) => ∃ R, DW t R ∧ ((sm R (fun o => 2 + gS t o) (gM t) + n ≤ dC G ∧ x = 1 ∧ w = wR t R) ∨ (dC G < sm R (fun o => 2 + gS t o) (gM t) + n ∧ x = 0 ∧ w = wF (wR t R) (gF t + 1)))) (dW G)) := by
  refine gg_met (cc := cX3_hasRoom) (nL := 3) (ret := (some .boolean)) (lv := [(0, .ref (dH G)), (1, .int (nI n))]) (by decide) rfl rfl (Nat.le_of_ble_eq_true rfl) ?_
  intro p_ e_ s_ m_ bl_ me_ cc_ A_ X hr hk hnm
  have hm := hk0.2.1
  refine gg_aload_n X dX3_hasRoom_0 rfl 0 rfl ?_
  refine gc_i X (gr_V (q0 := 0) X dX3_hasRoom_1 X.2.2.2.2.2.1 (k_reachable l D G t hk0) (cwV 0 X.2.2.2.2.1 (gdV (al 171 rfl) (al 172 rfl) (al 245 rfl) (al 4 rfl) (al 173 rfl)) rfl rfl rfl (by decide +kernel) ⟨Nat.le_of_ble_eq_true rfl, Nat.le_of_ble_eq_true rfl⟩) rfl rfl rfl rfl rfl (Nat.le_of_ble_eq_true rfl) ⟨Nat.le_of_ble_eq_true rfl, Nat.le_of_ble_eq_true rfl⟩) (fun r_1 w_1 h_1 => ?_)
  obtain ⟨R, hR, ew, er⟩ := h_1
  rw [ew, er]
  have hL : sm R (fun o => 2 + gS t o) (gM t) ≤ 22 * gM t := sm_top (fun o ho => by have := hk0.2.2.1 o ho; omega)
  refine gg_iload_n X dX3_hasRoom_4 rfl 1 rfl ?_
  refine gg_iadd X dX3_hasRoom_5 (nI_add _ _) ?_
  refine gg_aload_n X dX3_hasRoom_6 rfl 0 rfl ?_
  refine gg_get X dX3_hasRoom_7 imX3 0 rfl rfl 0 (by decide) (am 143 rfl) rfl ?_
  refine gg_icmp_gt (tgt := 17) X dX3_hasRoom_10 (by decide) (fun c_10 => ?_) (fun c_10 => ?_)
  · refine gg_iconst X dX3_hasRoom_17 (v := 0) (by decide) ?_
    refine gg_istore_n X dX3_hasRoom_18 rfl (by decide) rfl ?_
    refine gg_aload_n X dX3_hasRoom_19 rfl 1 rfl ?_
    refine gg_iload_n X dX3_hasRoom_20 rfl 0 rfl ?_
    refine gg_if_eq (tgt := 31) X dX3_hasRoom_21 (by decide) (fun c_21 => ?_) (fun c_21 => ?_)
    · refine gg_aload_n X dX3_hasRoom_31 rfl 1 rfl ?_
      refine gg_get X dX3_hasRoom_32 imX3 0 rfl rfl 7 (by decide) (am 150 rfl) rfl ?_
      refine gg_iconst X dX3_hasRoom_35 (v := 1) (by decide) ?_
      refine gg_iadd X dX3_hasRoom_36 (nI_1 _) ?_
      refine gg_put X dX3_hasRoom_37 imX3 tyX3 tyX3_ok nmX3 0 rfl rfl 7 (by decide) (am 150 rfl) (ws' := dW G (wF (wR t R) (gF t + 1))) (ty := .int) rfl (by decide +kernel) rfl rfl (Nat.le_of_ble_eq_true rfl) (rfl) ?_
      refine gg_iload_n X dX3_hasRoom_40 rfl 0 rfl ?_
      exact gg_zret X dX3_hasRoom_41 hr hk rfl (wF (wR t R) (gF t + 1)) (⟨R, hR, Or.inr ⟨(nI_ltI (by omega) (by omega)).mp c_10, rfl, rfl⟩⟩) rfl (Nat.le_of_ble_eq_true rfl) (Nat.le_of_ble_eq_true rfl)
    · exact absurd rfl c_21
  · refine gg_iconst X dX3_hasRoom_13 (v := 1) (by decide) ?_
    refine gg_goto (tgt := 18) X dX3_hasRoom_14 (by decide) ?_
    refine gg_istore_n X dX3_hasRoom_18 rfl (by decide) rfl ?_
    refine gg_aload_n X dX3_hasRoom_19 rfl 1 rfl ?_
    refine gg_iload_n X dX3_hasRoom_20 rfl 0 rfl ?_
    refine gg_if_eq (tgt := 31) X dX3_hasRoom_21 (by decide) (fun c_21 => ?_) (fun c_21 => ?_)
    · exact absurd c_21 (by decide)
    · refine gg_aload_n X dX3_hasRoom_24 rfl 1 rfl ?_
      refine gg_get X dX3_hasRoom_25 imX3 0 rfl rfl 7 (by decide) (am 150 rfl) rfl ?_
      refine gg_goto (tgt := 37) X dX3_hasRoom_28 (by decide) ?_
      refine gg_put X dX3_hasRoom_37 imX3 tyX3 tyX3_ok nmX3 0 rfl rfl 7 (by decide) (am 150 rfl) (ws' := dW G (wR t R)) (ty := .int) rfl (by decide +kernel) rfl rfl (Nat.le_of_ble_eq_true rfl) (rfl) ?_
      refine gg_iload_n X dX3_hasRoom_40 rfl 0 rfl ?_
      exact gg_zret X dX3_hasRoom_41 hr hk rfl (wR t R) (⟨R, hR, Or.inl ⟨Nat.not_lt.mp (fun h => c_10 ((nI_ltI (by omega) (by omega)).mpr h)), rfl, rfl⟩⟩) rfl (Nat.le_of_ble_eq_true rfl) (Nat.le_of_ble_eq_true rfl)
