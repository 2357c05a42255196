/-! numbers on the machine -/
theorem c64 : (4294967297 : Int64) = lN 4294967297 := by decide
theorem c64n : (4294967296 : Int64) = nO := by decide
theorem oB_sub (i : Nat) : oB i - 4294967297 = lN i := by
  rw [c64]
  unfold oB
  rw [lN_sub (by omega), show 4294967297 + i - 4294967297 = i by omega]
theorem row_neg {v w : Int64} (hw : v - 4294967297 = w) (h : w < 0) {i : Nat} (hi : i < 2147483648) : v ≠ oB i := by
  intro e
  rw [e, oB_sub] at hw
  rw [← hw, Int64.lt_iff_toInt_lt, lN_toInt (by omega)] at h
  have : (0 : Int64).toInt = 0 := by decide
  omega
theorem row_big {v w : Int64} {N : Nat} (hw : v - 4294967297 = w) (h : lN N ≤ w) (hN : N < 2147483648) {i : Nat} (hi : i < N) : v ≠ oB i := by
  intro e
  rw [e, oB_sub] at hw
  rw [← hw] at h
  have := (lN_le (by omega) (by omega)).mp h
  omega
theorem row_in {v w : Int64} {N : Nat} (hw : v - 4294967297 = w) (h0 : ¬ w < 0) (h : ¬ lN N ≤ w) (hN : N < 2147483648) : ∃ j, j < N ∧ w = lN j ∧ v = oB j := by
  obtain ⟨k, hk, rfl⟩ := pk_lOf h0
  have hkN : k < N := by
    rcases Nat.lt_or_ge k N with q | q
    · exact q
    · exact absurd ((pk_lLE (by omega) (by omega)).mpr q) h
  refine ⟨k, hkN, rfl, ?_⟩
  have e : v = lN k + 4294967297 := by rw [← hw, Int64.sub_add_cancel]
  rw [e, c64, lN_add, Nat.add_comm]
  rfl
theorem isR_no {r : Int32} (h : r < 0 ∨ nI 10 ≤ r) : ¬ isR r := by
  rintro ⟨j, hj, rfl⟩
  rcases h with h | h
  · exact nI_pos (by omega) h
  · exact nI_ge hj (by omega) h
theorem isR_yes {r : Int32} (h1 : ¬ r < 0) (h2 : ¬ nI 10 ≤ r) : isR r := by
  rcases pk_ix r (n := 10) (by omega) with h | h | h
  · exact absurd h h1
  · exact absurd h h2
  · exact h
theorem ix_no {k : Int32} {n : Nat} (hn : n < 2147483648) (h : k < 0 ∨ nI n ≤ k) : ∀ q, q < n → k ≠ nI q := by
  rintro q hq rfl
  rcases h with h | h
  · exact nI_pos (by omega) h
  · exact nI_ge hq (by omega) h
theorem ix_yes {k : Int32} {n : Nat} (hn : n < 2147483648) (h1 : ¬ k < 0) (h2 : ¬ nI n ≤ k) : ∃ q, q < n ∧ k = nI q := by
  rcases pk_ix k (n := n) (by omega) with h | h | h
  · exact absurd h h1
  · exact absurd h h2
  · exact h
theorem cOk.N {F : CF} {u : CS} (h : cOk F u) : kN F < 2147483648 := by
  obtain ⟨h1, h2, h3, -⟩ := h
  omega
theorem cOk.n {F : CF} {u : CS} (h : cOk F u) : nU u < 2147483648 := by
  obtain ⟨h1, h2, h3, h4, -⟩ := h
  omega
theorem th_inj {F : CF} {u : CS} {A : Nat → Prop} (hD : va_D A (cW F u)) : ∀ i j, i < nU u → j < nU u → tH u i = tH u j → i = j := by
  intro i j hi hj e
  have := hD.1 _ _ _ _ (cW_th F u hi) (cW_th F u hj) e
  omega
theorem rW_lt {n i : Nat} {th : Nat → Nat} (h : i < n) : rW n th i = some (th i) := by unfold rW; rw [if_pos h]
theorem rW_ge {n i : Nat} {th : Nat → Nat} (h : ¬ i < n) : rW n th i = none := by unfold rW; rw [if_neg h]
theorem rW_some {n i a : Nat} {th : Nat → Nat} (h : rW n th i = some a) : i < n ∧ a = th i := by
  by_cases hi : i < n
  · rw [rW_lt hi] at h; exact ⟨hi, (Option.some.inj h).symm⟩
  · rw [rW_ge hi] at h; cases h
theorem rW_none {n i : Nat} {th : Nat → Nat} (h : rW n th i = none) : ¬ i < n := fun hi => by
  rw [rW_lt hi] at h; cases h
theorem rW_up {n q : Nat} {th : Nat → Nat} : va_up (rW n th) n (some q) = rW (n + 1) (va_up th n q) := by
  funext i
  by_cases e : i = n
  · subst e; rw [va_up_self, rW_lt (Nat.lt_succ_self i), va_up_self]
  · rw [va_up_ne _ _ e]
    by_cases hi : i < n
    · rw [rW_lt hi, rW_lt (show i < n + 1 by omega), va_up_ne _ _ e]
    · rw [rW_ge hi, rW_ge (show ¬ i < n + 1 by omega)]
theorem pTO.row {u : CS} {v : Int64} {r : Option Nat} (h : pTO u v r) : ∃ o : Option Nat, r = o.map (tH u) ∧ (∀ i, o = some i → i < nU u) ∧ ((∃ i, i < nU u ∧ v = oB i ∧ o = some i) ∨ ((∀ i, i < nU u → v ≠ oB i) ∧ o = none)) := by
  rcases h with ⟨i, h1, h2, h3⟩ | ⟨h1, h2⟩
  · exact ⟨some i, by rw [h3]; rfl, fun k e => by cases e; exact h1, Or.inl ⟨i, h1, h2, rfl⟩⟩
  · exact ⟨none, by rw [h2]; rfl, fun k e => (by cases e), Or.inr ⟨h1, rfl⟩⟩
/-- the first row that isn't marked -/
def pFst (F : CF) (u : CS) (i : Nat) : Prop := i ≤ kN F ∧ i ≤ nU u ∧ (∀ k, k < i → rC u k = true) ∧ (i < kN F → i < nU u → rC u i = false)
theorem pFst.lt {F : CF} {u v : CS} {k i : Nat} (hc : cOk F u) (hw : Wd u v) (hf : rL v + (2 + k) ≤ kC F) (hi : pFst F v i) : i < kN F := by
  obtain ⟨c1, c2, c3, c4, c5, c6⟩ := hc
  obtain ⟨f1, f2, f3, f4⟩ := hi
  obtain ⟨w0, w1, w2, w3⟩ := hw
  have en : nU v = nU u := w0.2.2.2.2.2.1
  rcases Nat.lt_or_ge i (kN F) with q | q
  · exact q
  · have e1 : i = nU u := by omega
    have h1 : sm (rC v) (fun _ => 1) (nU u) = nU u := sm_all (fun x hx => f3 x (by omega))
    have h2 := sm_two (f := rC v) (z := sZ u) (n := nU u)
    rw [h1, ← w2] at h2
    omega
theorem b01 {P : Prop} {x : Int32} (h : (P ∧ x = 1) ∨ (¬ P ∧ x = 0)) (e : x = 0) : ¬ P := by
  rcases h with ⟨-, h⟩ | ⟨h, -⟩
  · rw [h] at e; exact absurd e (by decide)
  · exact h
theorem b01' {P : Prop} {x : Int32} (h : (P ∧ x = 1) ∨ (¬ P ∧ x = 0)) (e : ¬ x = 0) : P := by
  rcases h with ⟨h, -⟩ | ⟨-, h⟩
  · exact h
  · exact absurd h e
theorem va_up_id {α : Type} (f : Nat → α) (i : Nat) : va_up f i (f i) = f := by
  funext j
  by_cases e : j = i
  · rw [e, va_up_self]
  · rw [va_up_ne _ _ e]
theorem cW_setR (F : CF) (u : CS) {i : Nat} (b : Bool) (h : i < nU u) : (cW F u).set (2 * i + 6) (tH u i, .inr (1, [.ref (aR u i), .int (nI (sZ u i)), .int (bI b)])) = cW F (uZ u (sZ u) (va_up (rC u) i b) (vS u)) := by
  rw [cW_setT F u (sZ u i) b h, va_up_id]
theorem cW_setM (F : CF) (u : CS) {i : Nat} (b : Bool) (h : i < nU u) : (cW F u).set (2 * i + 6) (tH u i, .inr (1, [.ref (aR u i), .int (nI (sZ u i)), .int (bI b)])) = cW F (uK u (sZ u) (va_up (rC u) i b) (vS u) (rO u) (rL u) (rE u)) := cW_setR F u b h
theorem pTI.of {u : CS} {j : Nat} {x : Option Nat} (hj : j < 10) (h : pTO u (rG u j) x) : pTI u (nI j) x := by
  rcases h with ⟨i, h1, h2, h3⟩ | ⟨h1, h2⟩
  · exact Or.inl ⟨j, i, hj, rfl, h1, h2, h3⟩
  · refine Or.inr ⟨fun j' i hj' e hi => ?_, h2⟩
    have e := nI_inj (by omega) (by omega) e
    subst e
    exact h1 i hi
theorem pTI.no {u : CS} {r : Int32} (h : ¬ isR r) : pTI u r none := Or.inr ⟨fun j _ hj e _ => absurd ⟨j, hj, e⟩ h, rfl⟩
/-- a row is filled, up to place q -/
def pFil (u : CS) (i z : Nat) (x : Int64) (q : Nat) (v : CS) : Prop := rG v = rG u ∧ sK v = sK u ∧ sT v = sT u ∧ mD v = mD u ∧ fU v = fU u ∧ nU v = nU u ∧ tH v = tH u ∧ aR v = aR u ∧ rC v = rC u ∧ rO v = rO u ∧ rL v = rL u ∧ rE v = rE u ∧ sZ v = va_up (sZ u) i z ∧ (∀ y, y ≠ i → vS v y = vS u y) ∧ ∀ k, k < q → vS v i k = x
theorem pFil.step {u v : CS} {i z q : Nat} {x : Int64} (h : pFil u i z x q v) : pFil u i z x (q + 1) (uZ v (sZ v) (rC v) (va_up (vS v) i (vp_updL (vS v i) q x))) := by
  obtain ⟨a1, a2, a3, a4, a5, a6, a7, a8, a9, a10, a11, a12, a13, a14, a15⟩ := h
  refine ⟨a1, a2, a3, a4, a5, a6, a7, a8, a9, a10, a11, a12, a13, fun y hy => ?_, fun k hk => ?_⟩
  · show va_up (vS v) i _ y = vS u y
    rw [va_up_ne _ _ hy]; exact a14 y hy
  · show va_up (vS v) i (vp_updL (vS v i) q x) i k = x
    rw [va_up_self]
    by_cases e : k = q
    · rw [e, pk_uLs]
    · rw [pk_uLn e]; exact a15 k (by omega)
def pFor (u w : CS) : Prop := Sm u w ∧ rO w = 0 ∧ rL w = 0 ∧ ∀ i, i < nU u → rC w i = false
theorem pFor.wk {u w : CS} (h : pFor u w) : Wk w := by
  obtain ⟨h1, h2, h3, h4⟩ := h
  have en : nU w = nU u := h1.2.2.2.2.2.1
  refine ⟨?_, ?_, fun j hj => by omega, fun i hi hr => ?_⟩
  · rw [h2, sm_zero (fun i hi => h4 i (by omega))]
  · rw [h3, sm_zero (fun i hi => h4 i (by omega))]
  · rw [h4 i (by omega)] at hr; cases hr
theorem cW_len (F : CF) (u : CS) : (cW F u).length = 2 * nU u + 6 := by
  show (tl (kJ F) (tH u) (aR u) (sZ u) (rC u) (vS u) (nU u)).length + 6 = _
  rw [tl_len]
theorem cW_new (F : CF) (u : CS) (q q2 : Nat) : (cW F u ++ ([(q, .inr (1, [.ref q2, .int 0, .int 0])), (q2, .inl (kJ F, 20, .inr (.inl (fun _ => 0))))] : va_W)).set 4 (kW F, .inl (kT F, kN F, .inr (.inr (.inr (.inr (va_up (rW (nU u) (tH u)) (nU u) (some q))))))) = cW F (uP u (nU u + 1) (va_up (tH u) (nU u) q) (va_up (aR u) (nU u) q2) (va_up (sZ u) (nU u) 0) (va_up (rC u) (nU u) false) (va_up (vS u) (nU u) (fun _ => 0))) := by
  rw [rW_up]
  show _ :: _ :: _ :: _ :: _ :: _ :: (tl (kJ F) (tH u) (aR u) (sZ u) (rC u) (vS u) (nU u) ++ _) = _ :: _ :: _ :: _ :: _ :: _ :: tl (kJ F) (va_up (tH u) (nU u) q) (va_up (aR u) (nU u) q2) (va_up (sZ u) (nU u) 0) (va_up (rC u) (nU u) false) (va_up (vS u) (nU u) (fun _ => 0)) (nU u + 1)
  rw [tl_congr (th' := va_up (tH u) (nU u) q) (ar' := va_up (aR u) (nU u) q2) (sz' := va_up (sZ u) (nU u) 0) (rc' := va_up (rC u) (nU u) false) (vs' := va_up (vS u) (nU u) (fun _ => 0)) (fun i hi => ⟨(va_up_ne _ _ (show i ≠ nU u by omega)).symm, (va_up_ne _ _ (show i ≠ nU u by omega)).symm, (va_up_ne _ _ (show i ≠ nU u by omega)).symm, (va_up_ne _ _ (show i ≠ nU u by omega)).symm, (va_up_ne _ _ (show i ≠ nU u by omega)).symm⟩)]
  simp only [tl, va_up_self]
  rfl
theorem cW_newat (F : CF) (u : CS) (q q2 : Nat) : (cW F u ++ ([(q, .inr (1, [.ref q2, .int 0, .int 0])), (q2, .inl (kJ F, 20, .inr (.inl (fun _ => 0))))] : va_W))[2 * nU u + 6]? = some (q, .inr (1, [.ref q2, .int 0, .int 0])) := by
  rw [List.getElem?_append_right (by rw [cW_len]; exact Nat.le_refl _), cW_len, Nat.sub_self]
  rfl
theorem cW_at4 (F : CF) (u : CS) (w : va_W) : (cW F u ++ w)[4]? = some (kW F, .inl (kT F, kN F, .inr (.inr (.inr (.inr (rW (nU u) (tH u))))))) := rfl
theorem pPl.old {F : CF} {u w : CS} {i z : Nat} {x : Int64} (hc : cOk F u) (hi : i < nU u) (hf : rC u i = false) (h : pFil u i z x z w) : pPl F u z x i w := by
  obtain ⟨a1, a2, a3, a4, a5, a6, a7, a8, a9, a10, a11, a12, a13, a14, a15⟩ := h
  refine ⟨by rw [a6]; exact hi, by rw [a6]; exact Nat.le_refl _, by rw [a6]; exact hc.2.2.2.1, fun _ => hf, fun y hy _ => by rw [← a6]; exact hy, fun y _ hn => ⟨by rw [a13, va_up_ne _ _ hn], a14 y hn⟩, by rw [a13, va_up_self], a15, a1, a2, a3, a4, a5⟩
theorem pPl.new {F : CF} {u w : CS} {z q q2 : Nat} {x : Int64} (hN : nU u < kN F) (h : pFil (uP u (nU u + 1) (va_up (tH u) (nU u) q) (va_up (aR u) (nU u) q2) (va_up (sZ u) (nU u) 0) (va_up (rC u) (nU u) false) (va_up (vS u) (nU u) (fun _ => 0))) (nU u) z x z w) : pPl F u z x (nU u) w := by
  obtain ⟨a1, a2, a3, a4, a5, a6, a7, a8, a9, a10, a11, a12, a13, a14, a15⟩ := h
  have a6 : nU w = nU u + 1 := a6
  have a13 : sZ w = va_up (va_up (sZ u) (nU u) 0) (nU u) z := a13
  have a14 : ∀ y, y ≠ nU u → vS w y = va_up (vS u) (nU u) (fun _ => 0) y := a14
  refine ⟨by omega, by omega, by omega, fun h => absurd h (Nat.lt_irrefl _), fun y hy hn => by omega, fun y hy hn => ⟨by rw [a13, va_up_ne _ _ hn, va_up_ne _ _ hn], by rw [a14 y hn, va_up_ne _ _ hn]⟩, by rw [a13, va_up_self], a15, a1, a2, a3, a4, a5⟩
theorem cOk.grow {F : CF} {u : CS} (hc : cOk F u) (hN : nU u < kN F) {q q2 : Nat} : cOk F (uP u (nU u + 1) (va_up (tH u) (nU u) q) (va_up (aR u) (nU u) q2) (va_up (sZ u) (nU u) 0) (va_up (rC u) (nU u) false) (va_up (vS u) (nU u) (fun _ => 0))) := by
  obtain ⟨c1, c2, c3, c4, c5, c6⟩ := hc
  refine ⟨c1, c2, c3, by show nU u + 1 ≤ kN F; omega, c5, fun i hi => ?_⟩
  have hi : i < nU u + 1 := hi
  show va_up (sZ u) (nU u) 0 i ≤ 20
  by_cases e : i = nU u
  · rw [e, va_up_self]; omega
  · rw [va_up_ne _ _ e]; exact c6 i (by omega)
theorem oB_add (i : Nat) : (4294967297 : Int64) + lN i = oB i := by
  rw [c64, lN_add]
  rfl
theorem ob_eq {F : CF} {u : CS} (hc : cOk F u) {i k : Nat} {v : Int64} (hi : i < nU u) (hk : k < nU u) (h1 : v = oB i) (h2 : v = oB k) : i = k := oB_inj (by have := hc.n; omega) (by have := hc.n; omega) (h1.symm.trans h2)
theorem sw4 (z : Int32) (h : ¬ z = 0 ∧ ¬ z = 1 ∧ ¬ z = 2 ∧ ¬ z = 3 ∧ ¬ z = 4) : z.toInt < 0 ∨ 4 < z.toInt := by
  have f : ∀ k : Int32, ¬ z = k → z.toInt ≠ k.toInt := fun k hk e => hk (Int32.toInt_inj.mp e)
  have h0 := f 0 h.1
  have h1 := f 1 h.2.1
  have h2 := f 2 h.2.2.1
  have h3 := f 3 h.2.2.2.1
  have h4 := f 4 h.2.2.2.2
  rw [show (0 : Int32).toInt = 0 by decide] at h0
  rw [show (1 : Int32).toInt = 1 by decide] at h1
  rw [show (2 : Int32).toInt = 2 by decide] at h2
  rw [show (3 : Int32).toInt = 3 by decide] at h3
  rw [show (4 : Int32).toInt = 4 by decide] at h4
  omega
