/-! what the class's methods do -/
def pTO (u : CS) (v : Int64) (r : Option Nat) : Prop := (∃ i, i < nU u ∧ v = oB i ∧ r = some (tH u i)) ∨ ((∀ i, i < nU u → v ≠ oB i) ∧ r = none)
def pTI (u : CS) (r : Int32) (x : Option Nat) : Prop := (∃ j i, j < 10 ∧ r = nI j ∧ i < nU u ∧ rG u j = oB i ∧ x = some (tH u i)) ∨ ((∀ j i, j < 10 → r = nI j → i < nU u → rG u j ≠ oB i) ∧ x = none)
/-- the same but for the marks of a walk -/
def Sm (u v : CS) : Prop := rG v = rG u ∧ sK v = sK u ∧ sT v = sT u ∧ mD v = mD u ∧ fU v = fU u ∧ nU v = nU u ∧ tH v = tH u ∧ aR v = aR u ∧ sZ v = sZ u ∧ vS v = vS u
theorem Sm.rf (u : CS) : Sm u u := ⟨rfl, rfl, rfl, rfl, rfl, rfl, rfl, rfl, rfl, rfl⟩
theorem Sm.tr {u v w : CS} (h : Sm u v) (k : Sm v w) : Sm u w := by
  obtain ⟨a1, a2, a3, a4, a5, a6, a7, a8, a9, a10⟩ := h
  obtain ⟨b1, b2, b3, b4, b5, b6, b7, b8, b9, b10⟩ := k
  exact ⟨b1.trans a1, b2.trans a2, b3.trans a3, b4.trans a4, b5.trans a5, b6.trans a6, b7.trans a7, b8.trans a8, b9.trans a9, b10.trans a10⟩
/-- a walk under way: how many, how many cells, which -/
def Wk (u : CS) : Prop := rO u = sm (rC u) (fun _ => 1) (nU u) ∧ rL u = sm (rC u) (fun i => 2 + sZ u i) (nU u) ∧ (∀ j, j < rO u → ∃ i, i < nU u ∧ rE u j = some (tH u i) ∧ rC u i = true) ∧ (∀ i, i < nU u → rC u i = true → ∃ j, j < rO u ∧ rE u j = some (tH u i))
abbrev mk (u : CS) (i : Nat) : CS := uK u (sZ u) (va_up (rC u) i true) (vS u) (rO u + 1) (rL u + (2 + sZ u i)) (va_up (rE u) (rO u) (some (tH u i)))
def rch (u : CS) (o : Option Nat) : CS := match o with
  | none => u
  | some i => if rC u i = true then u else mk u i
theorem mk_Sm (u : CS) (i : Nat) : Sm u (mk u i) := ⟨rfl, rfl, rfl, rfl, rfl, rfl, rfl, rfl, rfl, rfl⟩
theorem Wk.mk {u : CS} (h : Wk u) {i : Nat} (hi : i < nU u) (hf : rC u i = false) : Wk (mk u i) := by
  obtain ⟨h1, h2, h3, h4⟩ := h
  refine ⟨?_, ?_, fun j hj => ?_, fun x hx hr => ?_⟩
  · show rO u + 1 = sm (va_up (rC u) i true) (fun _ => 1) (nU u)
    rw [sm_up hi hf, ← h1]
  · show rL u + (2 + sZ u i) = sm (va_up (rC u) i true) (fun i => 2 + sZ u i) (nU u)
    rw [sm_up hi hf, ← h2]
  · have hj : j < rO u + 1 := hj
    show ∃ x, x < nU u ∧ va_up (rE u) (rO u) (some (tH u i)) j = some (tH u x) ∧ va_up (rC u) i true x = true
    by_cases e : j = rO u
    · subst e
      exact ⟨i, hi, va_up_self _ _ _, va_up_self _ _ _⟩
    · obtain ⟨x, hx, g1, g2⟩ := h3 j (by omega)
      refine ⟨x, hx, by rw [va_up_ne _ _ e]; exact g1, ?_⟩
      by_cases e2 : x = i
      · rw [e2, va_up_self]
      · rw [va_up_ne _ _ e2]; exact g2
  · have hr : va_up (rC u) i true x = true := hr
    show ∃ j, j < rO u + 1 ∧ va_up (rE u) (rO u) (some (tH u i)) j = some (tH u x)
    by_cases e : x = i
    · subst e
      exact ⟨rO u, by omega, va_up_self _ _ _⟩
    · rw [va_up_ne _ _ e] at hr
      obtain ⟨j, hj, g⟩ := h4 x hx hr
      exact ⟨j, by omega, by rw [va_up_ne _ _ (show j ≠ rO u by omega)]; exact g⟩
theorem Wk.lt {u : CS} (h : Wk u) {i : Nat} (hi : i < nU u) (hf : rC u i = false) : rO u < nU u := by
  rw [h.1]; exact sm_lt hi hf
theorem Wk.le {u : CS} (h : Wk u) : rO u ≤ nU u := by
  rw [h.1]; exact sm_le
/-- marks only grow, what was found stays found -/
def Ex (u v : CS) : Prop := (∀ i, i < nU u → rC u i = true → rC v i = true) ∧ rO u ≤ rO v ∧ ∀ j, j < rO u → rE v j = rE u j
theorem Ex.rf (u : CS) : Ex u u := ⟨fun _ _ h => h, Nat.le_refl _, fun _ _ => rfl⟩
theorem Ex.tr {u v w : CS} (hn : nU v = nU u) (h : Ex u v) (k : Ex v w) : Ex u w :=
  ⟨fun i hi hr => k.1 i (by rw [hn]; exact hi) (h.1 i hi hr), Nat.le_trans h.2.1 k.2.1, fun j hj => (k.2.2 j (Nat.lt_of_lt_of_le hj h.2.1)).trans (h.2.2 j hj)⟩
theorem mk_Ex (u : CS) (i : Nat) : Ex u (mk u i) := by
  refine ⟨fun x _ hr => ?_, Nat.le_succ _, fun j hj => ?_⟩
  · show va_up (rC u) i true x = true
    by_cases e : x = i
    · rw [e, va_up_self]
    · rw [va_up_ne _ _ e]; exact hr
  · show va_up (rE u) (rO u) (some (tH u i)) j = rE u j
    exact va_up_ne _ _ (by omega)
theorem rch_all {u : CS} (h : Wk u) {o : Option Nat} (ho : ∀ i, o = some i → i < nU u) : Sm u (rch u o) ∧ Wk (rch u o) ∧ Ex u (rch u o) ∧ (∀ i, o = some i → rC (rch u o) i = true) ∧ ∀ i, i < nU u → rC (rch u o) i = true → rC u i = true ∨ o = some i := by
  cases o with
  | none => exact ⟨Sm.rf u, h, Ex.rf u, fun i q => (by cases q), fun i _ hr => Or.inl hr⟩
  | some a =>
    have ha := ho a rfl
    show Sm u (if rC u a = true then u else mk u a) ∧ Wk (if rC u a = true then u else mk u a) ∧ Ex u (if rC u a = true then u else mk u a) ∧ (∀ i, some a = some i → rC (if rC u a = true then u else mk u a) i = true) ∧ ∀ i, i < nU u → rC (if rC u a = true then u else mk u a) i = true → rC u i = true ∨ some a = some i
    by_cases hr : rC u a = true
    · rw [if_pos hr]
      exact ⟨Sm.rf u, h, Ex.rf u, fun i q => by cases q; exact hr, fun i _ h2 => Or.inl h2⟩
    · rw [if_neg hr]
      have hf : rC u a = false := by
        cases hq : rC u a with
        | false => rfl
        | true => exact absurd hq hr
      refine ⟨mk_Sm u a, h.mk ha hf, mk_Ex u a, fun i q => by cases q; exact va_up_self _ _ _, fun i _ h2 => ?_⟩
      by_cases e : i = a
      · exact Or.inr (by rw [e])
      · have h2 : va_up (rC u) a true i = true := h2
        rw [va_up_ne _ _ e] at h2
        exact Or.inl h2
/-- what going over an array of values marks -/
def pAll (u : CS) (g : Nat → Int64) (z : Nat) (v : CS) : Prop := Sm u v ∧ Wk v ∧ Ex u v ∧ (∀ k, k < z → ∀ i, i < nU u → g k = oB i → rC v i = true) ∧ ∀ i, i < nU u → rC v i = true → rC u i = true ∨ ∃ k, k < z ∧ g k = oB i
theorem pAll.start {u : CS} (h : Wk u) (g : Nat → Int64) : pAll u g 0 u := ⟨Sm.rf u, h, Ex.rf u, fun k hk => by omega, fun _ _ hr => Or.inl hr⟩
theorem pAll.step {u v : CS} {g : Nat → Int64} {z : Nat} (h : pAll u g z v) {o : Option Nat} (ho : (∃ i, i < nU u ∧ g z = oB i ∧ o = some i) ∨ ((∀ i, i < nU u → g z ≠ oB i) ∧ o = none)) (hn : nU u < 2147483648) : pAll u g (z + 1) (rch v o) := by
  obtain ⟨h1, h2, h3, h4, h5⟩ := h
  have en : nU v = nU u := h1.2.2.2.2.2.1
  have hlt : ∀ i, o = some i → i < nU v := by
    intro i e
    rcases ho with ⟨x, hx, -, hox⟩ | ⟨-, hox⟩
    · rw [hox] at e; cases e; rw [en]; exact hx
    · rw [hox] at e; cases e
  obtain ⟨g1, g2, g3, g4, g5⟩ := rch_all h2 hlt
  refine ⟨h1.tr g1, g2, h3.tr en g3, fun k hk i hi hki => ?_, fun i hi hr => ?_⟩
  · by_cases e : k = z
    · subst e
      rcases ho with ⟨x, hx, hgx, hox⟩ | ⟨hno, -⟩
      · rw [hgx] at hki
        have e2 := oB_inj (by omega) (by omega) hki
        subst e2
        exact g4 x hox
      · exact absurd hki (hno i hi)
    · exact g3.1 i (by rw [en]; exact hi) (h4 k (by omega) i hi hki)
  · rcases g5 i (by rw [en]; exact hi) hr with h6 | h6
    · rcases h5 i hi h6 with h7 | ⟨k, hk, h7⟩
      · exact Or.inl h7
      · exact Or.inr ⟨k, by omega, h7⟩
    · rcases ho with ⟨x, hx, hgx, hox⟩ | ⟨-, hox⟩
      · rw [hox] at h6; cases h6
        exact Or.inr ⟨z, by omega, hgx⟩
      · rw [hox] at h6; cases h6
/-- a whole walk: what is marked is what is reached -/
def Wd (u v : CS) : Prop := Sm u v ∧ rO v = sm (rC v) (fun _ => 1) (nU u) ∧ rL v = sm (rC v) (fun i => 2 + sZ u i) (nU u) ∧ ∀ i, i < nU u → (rC v i = true ↔ cRe u i)
/-- following what was found -/
def pFol (u : CS) (z : Nat) (v : CS) : Prop := Sm u v ∧ Wk v ∧ (∀ i, i < nU u → rC u i = true → rC v i = true) ∧ z ≤ rO v ∧ (∀ j, j < z → ∃ i, i < nU u ∧ rE v j = some (tH u i) ∧ ∀ b, b < nU u → cEd u i b → rC v b = true) ∧ ∀ S : Nat → Prop, (∀ i, i < nU u → rC u i = true → S i) → (∀ x y, S x → y < nU u → cEd u x y → S y) → ∀ i, i < nU u → rC v i = true → S i
theorem pFol.start {u : CS} (h : Wk u) : pFol u 0 u := ⟨Sm.rf u, h, fun _ _ h => h, Nat.zero_le _, fun j hj => by omega, fun _ h1 _ i hi hr => h1 i hi hr⟩
theorem pFol.step {u v w : CS} {z i : Nat} (h : pFol u z v) (hz : z < rO v) (hi : i < nU u) (he : rE v z = some (tH u i)) (hri : rC v i = true) (k : pAll v (vS u i) (sZ u i) w) : pFol u (z + 1) w := by
  obtain ⟨h1, h2, h3, h4, h5, h6⟩ := h
  obtain ⟨k1, k2, k3, k4, k5⟩ := k
  have en : nU v = nU u := h1.2.2.2.2.2.1
  rw [en] at k4 k5
  have mono : ∀ b, b < nU u → rC v b = true → rC w b = true := fun b hb hr => k3.1 b (by rw [en]; exact hb) hr
  refine ⟨h1.tr k1, k2, fun b hb hr => mono b hb (h3 b hb hr), by have := k3.2.1; omega, fun j hj => ?_, fun S s1 s2 b hb hr => ?_⟩
  · by_cases e : j = z
    · subst e
      refine ⟨i, hi, by rw [k3.2.2 j hz]; exact he, fun b hb hib => ?_⟩
      obtain ⟨q, hq, hqb⟩ := hib
      exact k4 q hq b hb hqb
    · obtain ⟨x, hx, g1, g2⟩ := h5 j (by omega)
      exact ⟨x, hx, by rw [k3.2.2 j (by omega)]; exact g1, fun b hb hxb => mono b hb (g2 b hb hxb)⟩
  · rcases k5 b hb hr with g | ⟨q, hq, g⟩
    · exact h6 S s1 s2 b hb g
    · exact s2 i b (h6 S s1 s2 i hi hri) hb ⟨q, hq, g⟩
theorem pFol.done {u v : CS} (h : pFol u (rO v) v) (hinj : ∀ i j, i < nU u → j < nU u → tH u i = tH u j → i = j) : ∀ x y, x < nU u → y < nU u → rC v x = true → cEd u x y → rC v y = true := by
  obtain ⟨h1, h2, h3, h4, h5, h6⟩ := h
  have en : nU v = nU u := h1.2.2.2.2.2.1
  have et : tH v = tH u := h1.2.2.2.2.2.2.1
  intro x y hx hy hr hxy
  obtain ⟨j, hj, hjx⟩ := h2.2.2.2 x (by rw [en]; exact hx) hr
  obtain ⟨i, hi, g1, g2⟩ := h5 j hj
  rw [hjx, et] at g1
  have e := hinj x i hx hi (Option.some.inj g1)
  subst e
  exact g2 y hy hxy
/-- forget, go over the registers and the stack, follow: a whole walk -/
theorem Wd.of {u u0 u1 u2 v : CS} (h0 : Sm u u0) (hf : ∀ i, i < nU u → rC u0 i = false) (h1 : pAll u0 (rG u) 10 u1) (h2 : pAll u1 (sK u) (sT u) u2) (h3 : pFol u2 (rO v) v) (hinj : ∀ i j, i < nU u → j < nU u → tH u i = tH u j → i = j) : Wd u v := by
  obtain ⟨a1, a2, a3, a4, a5⟩ := h1
  obtain ⟨b1, b2, b3, b4, b5⟩ := h2
  have e0 : nU u0 = nU u := h0.2.2.2.2.2.1
  have e1 : nU u1 = nU u := a1.2.2.2.2.2.1.trans e0
  have e2 : nU u2 = nU u := b1.2.2.2.2.2.1.trans e1
  have s2 : Sm u u2 := (h0.tr a1).tr b1
  have st : tH u2 = tH u := s2.2.2.2.2.2.2.1
  have sz : sZ u2 = sZ u := s2.2.2.2.2.2.2.2.2.1
  have sv : vS u2 = vS u := s2.2.2.2.2.2.2.2.2.2
  have cl := h3.done (by rw [e2, st]; exact hinj)
  obtain ⟨c1, c2, c3, c4, c5, c6⟩ := h3
  rw [e0] at a4 a5
  rw [e1] at b4 b5
  rw [e2] at c3 c6 cl
  have s3 : Sm u v := s2.tr c1
  have ed : ∀ x y, cEd u x y → cEd u2 x y := fun x y hxy => by
    obtain ⟨q, h5, h6⟩ := hxy
    exact ⟨q, by rw [sz]; exact h5, by rw [sv]; exact h6⟩
  have ed2 : ∀ x y, cEd u2 x y → cEd u x y := fun x y hxy => by
    obtain ⟨q, h5, h6⟩ := hxy
    exact ⟨q, by rw [← sz]; exact h5, by rw [← sv]; exact h6⟩
  refine ⟨s3, ?_, ?_, fun i hi => ⟨fun hr => ?_, fun hr => ?_⟩⟩
  · rw [c2.1, s3.2.2.2.2.2.1]
  · rw [c2.2.1, s3.2.2.2.2.2.1, s3.2.2.2.2.2.2.2.2.1]
  · refine c6 (fun x => cRe u x) (fun x hx hrx => ?_) (fun x y hx hy hxy => hx.step hy (ed2 x y hxy)) i hi hr
    rcases b5 x hx hrx with g | ⟨q, hq, g⟩
    · rcases a5 x hx g with g | ⟨q, hq, g⟩
      · rw [hf x hx] at g; cases g
      · exact cRe.root hx (Or.inl ⟨q, hq, g⟩)
    · exact cRe.root hx (Or.inr ⟨q, hq, g⟩)
  · have key : i < nU u ∧ rC v i = true := by
      refine hr (fun x => x < nU u ∧ rC v x = true) (fun x hx hrx => ⟨hx, c3 x hx ?_⟩) (fun x y hx hy hxy => ⟨hy, cl x y hx.1 hy hx.2 (ed x y hxy)⟩)
      rcases hrx with ⟨q, hq, g⟩ | ⟨q, hq, g⟩
      · exact b3.1 x (by rw [e1]; exact hx) (a4 q hq x hx g)
      · exact b4 q hq x hx g
    exact key.2
/-! what the calls answer: the class -/
def cpNum (u : CS) (r v x : Int32) (w : CS) : Prop := (∃ j, j < 10 ∧ r = nI j ∧ x = 1 ∧ w = uR u (vp_updL (rG u) j v.toInt64)) ∨ (¬ isR r ∧ x = 0 ∧ w = u)
def cpCopy (u : CS) (r s x : Int32) (w : CS) : Prop := (∃ j, j < 10 ∧ r = nI j ∧ x = 1 ∧ ((s = -1 ∧ w = uR u (vp_updL (rG u) j nO)) ∨ (¬ s = -1 ∧ ∃ k, k < 10 ∧ s = nI k ∧ w = uR u (vp_updL (rG u) j (rG u k))))) ∨ ((¬ isR r ∨ (¬ s = -1 ∧ ¬ isR s)) ∧ x = 0 ∧ w = u)
def cgGet (u : CS) (r s k : Int32) (j a i q : Nat) : Prop := j < 10 ∧ r = nI j ∧ a < 10 ∧ s = nI a ∧ i < nU u ∧ rG u a = oB i ∧ q < sZ u i ∧ k = nI q
def cpGet (u : CS) (r s k x : Int32) (w : CS) : Prop := (∃ j a i q, cgGet u r s k j a i q ∧ x = 1 ∧ w = uR u (vp_updL (rG u) j (vS u i q))) ∨ ((¬ ∃ j a i q, cgGet u r s k j a i q) ∧ x = 0 ∧ w = u)
def cpSet (u : CS) (r k s x : Int32) (w : CS) : Prop := (∃ j a i q, cgGet u s r k j a i q ∧ x = 1 ∧ w = uZ u (sZ u) (rC u) (va_up (vS u) i (vp_updL (vS u i) q (rG u j)))) ∨ ((¬ ∃ j a i q, cgGet u s r k j a i q) ∧ x = 0 ∧ w = u)
def cpPush (u : CS) (r x : Int32) (w : CS) : Prop := (∃ j, j < 10 ∧ r = nI j ∧ sT u < 50 ∧ x = nI (sT u + 1) ∧ w = uA u (vp_updL (rG u) j nO) (vp_updL (sK u) (sT u) (rG u j)) (sT u + 1) (mD u) (fU u)) ∨ (¬ (isR r ∧ sT u < 50) ∧ x = -1 ∧ w = u)
def cpPop (u : CS) (r x : Int32) (w : CS) : Prop := (∃ j n, j < 10 ∧ r = nI j ∧ sT u = n + 1 ∧ x = nI n ∧ w = uA u (vp_updL (rG u) j (sK u n)) (sK u) n (mD u) (fU u)) ∨ (¬ (isR r ∧ 0 < sT u) ∧ x = -1 ∧ w = u)
def cpLook (u : CS) (r x : Int32) (w : CS) : Prop := w = u ∧ ((¬ isR r ∧ x = -1) ∨ ∃ j, j < 10 ∧ r = nI j ∧ ((∃ i, i < nU u ∧ rG u j = oB i ∧ x = nI (sZ u i)) ∨ ((∀ i, i < nU u → rG u j ≠ oB i) ∧ ((rG u j = nO ∧ x = -2) ∨ (¬ rG u j = nO ∧ x = -3)))))
def cpNumIn (u : CS) (r x : Int32) (w : CS) : Prop := w = u ∧ ((∃ j, j < 10 ∧ r = nI j ∧ rG u j < nO ∧ x = (rG u j).toInt32) ∨ ((¬ ∃ j, j < 10 ∧ r = nI j ∧ rG u j < nO) ∧ x = 0))
def cpSame (u : CS) (r s x : Int32) (w : CS) : Prop := w = u ∧ ((∃ j k, j < 10 ∧ r = nI j ∧ k < 10 ∧ s = nI k ∧ ((rG u j = rG u k ∧ x = 1) ∨ (¬ rG u j = rG u k ∧ x = 0))) ∨ (¬ (isR r ∧ isR s) ∧ x = -1))
def cpCount (u : CS) (q x : Int32) (w : CS) : Prop := (q = 0 ∧ Wd u w ∧ x = nI (rL w)) ∨ (q = 1 ∧ Wd u w ∧ x = nI (rO w)) ∨ (w = u ∧ ((q = 2 ∧ x = nI (sT u)) ∨ (q = 3 ∧ x = nI (mD u)) ∨ (q = 4 ∧ x = nI (fU u)) ∨ (¬ q = 0 ∧ ¬ q = 1 ∧ ¬ q = 2 ∧ ¬ q = 3 ∧ ¬ q = 4 ∧ x = -1)))
def cgShr (u : CS) (r : Int32) (j i n : Nat) : Prop := j < 10 ∧ r = nI j ∧ i < nU u ∧ rG u j = oB i ∧ sZ u i = n + 1
def cpShr (u : CS) (r x : Int32) (w : CS) : Prop := (∃ j i n, cgShr u r j i n ∧ x = nI n ∧ w = uZ u (va_up (sZ u) i n) (va_up (rC u) i (rC u i)) (vS u)) ∨ ((¬ ∃ j i n, cgShr u r j i n) ∧ x = -1 ∧ w = u)
def cgGrow (u : CS) (r s : Int32) (j i a : Nat) : Prop := j < 10 ∧ r = nI j ∧ i < nU u ∧ rG u j = oB i ∧ a < 10 ∧ s = nI a ∧ sZ u i < 20
def cpGrow (F : CF) (u : CS) (r s x : Int32) (w : CS) : Prop := (∃ j i a v, cgGrow u r s j i a ∧ Wd u v ∧ ((rL v + 1 ≤ kC F ∧ x = nI (sZ u i + 1) ∧ ∃ rc, w = uZ v (va_up (sZ u) i (sZ u i + 1)) rc (va_up (vS u) i (vp_updL (vS u i) (sZ u i) (rG u a)))) ∨ (kC F < rL v + 1 ∧ x = 0 ∧ w = uF v (fU u + 1)))) ∨ ((¬ ∃ j i a, cgGrow u r s j i a) ∧ x = -1 ∧ w = u)
def cgMake (r n s : Int32) (j k a : Nat) : Prop := j < 10 ∧ r = nI j ∧ k ≤ 20 ∧ n = nI k ∧ a < 10 ∧ s = nI a
/-- a row is given to a new object of z values, all x -/
def pPl (F : CF) (v : CS) (z : Nat) (x : Int64) (i : Nat) (w : CS) : Prop := i < nU w ∧ nU v ≤ nU w ∧ nU w ≤ kN F ∧ (i < nU v → rC v i = false) ∧ (∀ y, y < nU w → y ≠ i → y < nU v) ∧ (∀ y, y < nU v → y ≠ i → sZ w y = sZ v y ∧ vS w y = vS v y) ∧ sZ w i = z ∧ (∀ q, q < z → vS w i q = x) ∧ rG w = rG v ∧ sK w = sK v ∧ sT w = sT v ∧ mD w = mD v ∧ fU w = fU v
def cpMake (F : CF) (u : CS) (r n s x : Int32) (w : CS) : Prop := (∃ j k a v, cgMake r n s j k a ∧ Wd u v ∧ ((rL v + (2 + k) ≤ kC F ∧ x = 1 ∧ ∃ i v2, pPl F v k (rG u a) i v2 ∧ w = uA v2 (vp_updL (rG u) j (oB i)) (sK v2) (sT v2) (mD u + 1) (fU v2)) ∨ (kC F < rL v + (2 + k) ∧ x = 0 ∧ w = uF v (fU u + 1)))) ∨ ((¬ ∃ j k a, cgMake r n s j k a) ∧ x = -1 ∧ w = u)
