/-! sums over the rows that are marked -/
def sm (f : Nat → Bool) (w : Nat → Nat) : Nat → Nat
  | 0 => 0
  | n + 1 => sm f w n + (if f n = true then w n else 0)
theorem sm_congr {f g : Nat → Bool} {w w' : Nat → Nat} {n : Nat} (h : ∀ i, i < n → f i = g i ∧ (f i = true → w i = w' i)) : sm f w n = sm g w' n := by
  induction n with
  | zero => rfl
  | succ n ih =>
    obtain ⟨h1, h2⟩ := h n (Nat.lt_succ_self n)
    simp only [sm]
    rw [ih (fun i hi => h i (Nat.lt_succ_of_lt hi)), ← h1]
    by_cases hf : f n = true
    · rw [if_pos hf, if_pos hf, h2 hf]
    · rw [if_neg hf, if_neg hf]
theorem sm_zero {f : Nat → Bool} {w : Nat → Nat} {n : Nat} (h : ∀ i, i < n → f i = false) : sm f w n = 0 := by
  induction n with
  | zero => rfl
  | succ n ih =>
    simp only [sm]
    rw [ih (fun i hi => h i (Nat.lt_succ_of_lt hi)), h n (Nat.lt_succ_self n)]
    rfl
theorem sm_up {f : Nat → Bool} {w : Nat → Nat} {n i : Nat} (hi : i < n) (hf : f i = false) : sm (va_up f i true) w n = sm f w n + w i := by
  induction n with
  | zero => omega
  | succ n ih =>
    simp only [sm]
    by_cases h : i < n
    · rw [ih h, va_up_ne _ _ (show n ≠ i by omega)]
      omega
    · have e : i = n := by omega
      subst e
      rw [va_up_self, if_pos rfl, hf, if_neg (by decide), sm_congr (f := va_up f i true) (g := f) (w' := w) (fun k hk => ⟨va_up_ne _ _ (show k ≠ i by omega), fun _ => rfl⟩)]
      omega
theorem sm_dn {f : Nat → Bool} {w : Nat → Nat} {n i : Nat} (hi : i < n) (hf : f i = true) : sm f w n = sm (va_up f i false) w n + w i := by
  have h := sm_up (f := va_up f i false) (w := w) hi (va_up_self _ _ _)
  rw [← h]
  apply sm_congr
  intro k hk
  refine ⟨?_, fun _ => rfl⟩
  by_cases e : k = i
  · subst e; rw [va_up_self, hf]
  · rw [va_up_ne _ _ e, va_up_ne _ _ e]
theorem sm_le {f : Nat → Bool} {n : Nat} : sm f (fun _ => 1) n ≤ n := by
  induction n with
  | zero => exact Nat.le_refl 0
  | succ n ih =>
    simp only [sm]
    by_cases hf : f n = true
    · rw [if_pos hf]; omega
    · rw [if_neg hf]; omega
theorem sm_lt {f : Nat → Bool} {n i : Nat} (hi : i < n) (hf : f i = false) : sm f (fun _ => 1) n < n := by
  have h1 := sm_up (w := fun _ => 1) hi hf
  have h2 := sm_le (f := va_up f i true) (n := n)
  omega
theorem sm_all {f : Nat → Bool} {n : Nat} (h : ∀ i, i < n → f i = true) : sm f (fun _ => 1) n = n := by
  induction n with
  | zero => rfl
  | succ n ih =>
    simp only [sm]
    rw [ih (fun i hi => h i (Nat.lt_succ_of_lt hi)), if_pos (h n (Nat.lt_succ_self n))]
theorem sm_two {f : Nat → Bool} {z : Nat → Nat} {n : Nat} : 2 * sm f (fun _ => 1) n ≤ sm f (fun i => 2 + z i) n := by
  induction n with
  | zero => exact Nat.le_refl 0
  | succ n ih =>
    simp only [sm]
    by_cases hf : f n = true
    · rw [if_pos hf, if_pos hf]; omega
    · rw [if_neg hf, if_neg hf]; omega
theorem sm_top {f : Nat → Bool} {w : Nat → Nat} {n b : Nat} (h : ∀ i, i < n → w i ≤ b) : sm f w n ≤ b * n := by
  induction n with
  | zero => exact Nat.le_refl 0
  | succ n ih =>
    simp only [sm]
    have h1 := ih (fun i hi => h i (Nat.lt_succ_of_lt hi))
    have h2 := h n (Nat.lt_succ_self n)
    rw [Nat.mul_succ]
    by_cases hf : f n = true
    · rw [if_pos hf]; omega
    · rw [if_neg hf]; omega
theorem sm_bij {R : Nat → Bool} {w w' : Nat → Nat} {n : Nat} {rho : Nat → Nat} : ∀ (md : Nat) (rc : Nat → Bool), (∀ o, o < md → R o = true → rho o < n ∧ rc (rho o) = true ∧ w o = w' (rho o)) → (∀ a b, a < md → b < md → R a = true → R b = true → rho a = rho b → a = b) → (∀ i, i < n → rc i = true → ∃ o, o < md ∧ R o = true ∧ rho o = i) → sm R w md = sm rc w' n := by
  intro md
  induction md with
  | zero =>
    intro rc h1 h2 h3
    refine (sm_zero (fun i hi => ?_)).symm
    cases hr : rc i with
    | false => rfl
    | true =>
      obtain ⟨o, ho, -⟩ := h3 i hi hr
      omega
  | succ md ih =>
    intro rc h1 h2 h3
    simp only [sm]
    by_cases hR : R md = true
    · obtain ⟨g1, g2, g3⟩ := h1 md (Nat.lt_succ_self md) hR
      rw [if_pos hR, sm_dn g1 g2, ← g3]
      congr 1
      refine ih (va_up rc (rho md) false) (fun o ho hro => ?_) (fun a b ha hb => h2 a b (Nat.lt_succ_of_lt ha) (Nat.lt_succ_of_lt hb)) (fun i hi hri => ?_)
      · obtain ⟨k1, k2, k3⟩ := h1 o (Nat.lt_succ_of_lt ho) hro
        refine ⟨k1, ?_, k3⟩
        rw [va_up_ne _ _ (fun e => ?_)]
        · exact k2
        · have := h2 o md (Nat.lt_succ_of_lt ho) (Nat.lt_succ_self md) hro hR e
          omega
      · by_cases e : i = rho md
        · subst e; rw [va_up_self] at hri; cases hri
        · rw [va_up_ne _ _ e] at hri
          obtain ⟨o, ho, hro, hoi⟩ := h3 i hi hri
          refine ⟨o, ?_, hro, hoi⟩
          by_cases e2 : o = md
          · subst e2; exact absurd hoi.symm e
          · omega
    · rw [if_neg hR, Nat.add_zero]
      refine ih rc (fun o ho => h1 o (Nat.lt_succ_of_lt ho)) (fun a b ha hb => h2 a b (Nat.lt_succ_of_lt ha) (Nat.lt_succ_of_lt hb)) (fun i hi hri => ?_)
      obtain ⟨o, ho, hro, hoi⟩ := h3 i hi hri
      refine ⟨o, ?_, hro, hoi⟩
      by_cases e2 : o = md
      · subst e2; exact absurd hro hR
      · omega
/-! what the reference reaches -/
def pL (o k : Nat) : Nat := 60 + 20 * o + k
def dRt (t : DS) (o : Nat) : Prop := ∃ p, p < 10 + gT t ∧ gK t p = 2 ∧ gV t p = nI o
def dEd (t : DS) (a b : Nat) : Prop := ∃ k, k < gS t a ∧ gK t (pL a k) = 2 ∧ gV t (pL a k) = nI b
def dRe (t : DS) (o : Nat) : Prop := ∀ S : Nat → Prop, (∀ x, x < gM t → dRt t x → S x) → (∀ x y, S x → y < gM t → dEd t x y → S y) → S o
theorem dRe.root {t : DS} {o : Nat} (h : o < gM t) (hr : dRt t o) : dRe t o := fun _ h1 _ => h1 o h hr
theorem dRe.step {t : DS} {a b : Nat} (h : dRe t a) (hb : b < gM t) (he : dEd t a b) : dRe t b := fun S h1 h2 => h2 a b (h S h1 h2) hb he
theorem dRe.lt {t : DS} {o : Nat} (h : dRe t o) : o < gM t := h (fun x => x < gM t) (fun _ hx _ => hx) (fun _ _ _ hy _ => hy)
/-! what the class reaches -/
def cRt (u : CS) (i : Nat) : Prop := (∃ r, r < 10 ∧ rG u r = oB i) ∨ ∃ j, j < sT u ∧ sK u j = oB i
def cEd (u : CS) (a b : Nat) : Prop := ∃ k, k < sZ u a ∧ vS u a k = oB b
def cRe (u : CS) (i : Nat) : Prop := ∀ S : Nat → Prop, (∀ x, x < nU u → cRt u x → S x) → (∀ x y, S x → y < nU u → cEd u x y → S y) → S i
theorem cRe.root {u : CS} {i : Nat} (h : i < nU u) (hr : cRt u i) : cRe u i := fun _ h1 _ => h1 i h hr
theorem cRe.step {u : CS} {a b : Nat} (h : cRe u a) (hb : b < nU u) (he : cEd u a b) : cRe u b := fun S h1 h2 => h2 a b (h S h1 h2) hb he
theorem cRe.lt {u : CS} {i : Nat} (h : cRe u i) : i < nU u := h (fun x => x < nU u) (fun _ hx _ => hx) (fun _ _ _ hy _ => hy)
/-! values on both sides -/
def eV (rho : Nat → Nat) (k v : Int32) : Int64 := if k = 0 then nO else if k = 1 then v.toInt64 else oB (rho v.toNatClampNeg)
theorem oB_inj {i j : Nat} (hi : i < 2147483648) (hj : j < 2147483648) (h : oB i = oB j) : i = j := by
  have := (pk_lEQ (a := 4294967297 + i) (b := 4294967297 + j) (by omega) (by omega)).mp h
  omega
theorem nO_oB {i : Nat} (hi : i < 2147483648) : nO ≠ oB i := fun h => by
  have := (pk_lEQ (a := 4294967296) (b := 4294967297 + i) (by omega) (by omega)).mp h
  omega
theorem i64_toInt (v : Int32) : v.toInt64.toInt = v.toInt := by simp
theorem i32_lo (v : Int32) : -2147483648 ≤ v.toInt ∧ v.toInt < 2147483648 := by
  have h1 := v.le_toInt
  have h2 := v.toInt_lt
  constructor <;> omega
theorem nO_toInt : nO.toInt = 4294967296 := pk_lT (n := 4294967296) (by omega)
theorem oB_toInt {i : Nat} (hi : i < 2147483648) : (oB i).toInt = 4294967297 + i := by
  have h := pk_lT (n := 4294967297 + i) (by omega)
  unfold oB
  rw [h]
  omega
theorem num_nO (v : Int32) : v.toInt64 ≠ nO := fun h => by
  have h1 := congrArg Int64.toInt h
  rw [i64_toInt, nO_toInt] at h1
  have h2 := i32_lo v
  omega
theorem num_oB (v : Int32) {i : Nat} (hi : i < 2147483648) : v.toInt64 ≠ oB i := fun h => by
  have h1 := congrArg Int64.toInt h
  rw [i64_toInt, oB_toInt hi] at h1
  have h2 := i32_lo v
  omega
theorem num_inj {v w : Int32} (h : v.toInt64 = w.toInt64) : v = w := by
  have h1 := congrArg Int64.toInt h
  rw [i64_toInt, i64_toInt] at h1
  exact Int32.toInt_inj.mp h1
theorem k12 : ¬ (1 : Int32) = 0 := by decide
theorem k20 : ¬ (2 : Int32) = 0 := by decide
theorem k21 : ¬ (2 : Int32) = 1 := by decide
theorem eV_0 (rho : Nat → Nat) (v : Int32) : eV rho 0 v = nO := by unfold eV; rw [if_pos rfl]
theorem eV_1 (rho : Nat → Nat) (v : Int32) : eV rho 1 v = v.toInt64 := by unfold eV; rw [if_neg k12, if_pos rfl]
theorem eV_2 (rho : Nat → Nat) {o : Nat} (h : o < 2147483648) : eV rho 2 (nI o) = oB (rho o) := by unfold eV; rw [if_neg k20, if_neg k21, nI_clamp (by omega)]
/-- a value that may be put anywhere: nothing, a number, an object that is reached -/
def gV' (t : DS) (a b : Int32) : Prop := (a = 0 ∧ b = 0) ∨ a = 1 ∨ (a = 2 ∧ ∃ o, o < gM t ∧ b = nI o ∧ dRe t o)
def dLv (t : DS) (p : Nat) : Prop := p < 10 + gT t ∨ ∃ o k, o < gM t ∧ k < gS t o ∧ p = pL o k
def dOk (t : DS) : Prop := gT t ≤ 50 ∧ gM t ≤ 512 ∧ (∀ o, o < gM t → gS t o ≤ 20) ∧ ∀ p, dLv t p → (gK t p = 0 ∧ gV t p = 0) ∨ gK t p = 1 ∨ (gK t p = 2 ∧ ∃ o, o < gM t ∧ gV t p = nI o)
def cOk (F : CF) (u : CS) : Prop := kN F = kC F / 2 ∧ 20 ≤ kC F ∧ kC F ≤ 3000 ∧ nU u ≤ kN F ∧ sT u ≤ 50 ∧ ∀ i, i < nU u → sZ u i ≤ 20
/-- the class's state and the reference's are one, under rho -/
def Rl (u : CS) (t : DS) (rho : Nat → Nat) : Prop :=
  sT u = gT t ∧ mD u = gM t ∧ fU u = gF t ∧
  (∀ r, r < 10 → rG u r = eV rho (gK t r) (gV t r)) ∧
  (∀ j, j < gT t → sK u j = eV rho (gK t (10 + j)) (gV t (10 + j))) ∧
  (∀ o, dRe t o → rho o < nU u ∧ sZ u (rho o) = gS t o ∧ ∀ k, k < gS t o → vS u (rho o) k = eV rho (gK t (pL o k)) (gV t (pL o k))) ∧
  (∀ a b, dRe t a → dRe t b → rho a = rho b → a = b)
theorem nI_inj {a b : Nat} (ha : a < 2147483648) (hb : b < 2147483648) (h : nI a = nI b) : a = b := (nI_eq (by omega) (by omega)).mp h
theorem gV'.reg {t : DS} (hk : dOk t) {p : Nat} (hp : p < 10 + gT t) : gV' t (gK t p) (gV t p) := by
  rcases hk.2.2.2 p (Or.inl hp) with h | h | ⟨h, o, ho, hv⟩
  · exact Or.inl h
  · exact Or.inr (Or.inl h)
  · exact Or.inr (Or.inr ⟨h, o, ho, hv, dRe.root ho ⟨p, hp, h, hv⟩⟩)
theorem gV'.val {t : DS} (hk : dOk t) {a k : Nat} (ha : dRe t a) (hs : k < gS t a) : gV' t (gK t (pL a k)) (gV t (pL a k)) := by
  rcases hk.2.2.2 (pL a k) (Or.inr ⟨a, k, ha.lt, hs, rfl⟩) with h | h | ⟨h, o, ho, hv⟩
  · exact Or.inl h
  · exact Or.inr (Or.inl h)
  · exact Or.inr (Or.inr ⟨h, o, ho, hv, ha.step ho ⟨k, hs, h, hv⟩⟩)
theorem Rl.lt {F : CF} {u : CS} {t : DS} {rho : Nat → Nat} (h : Rl u t rho) (hc : cOk F u) {o : Nat} (ho : dRe t o) : rho o < 2147483648 := by
  have h1 := (h.2.2.2.2.2.1 o ho).1
  obtain ⟨h2, h3, h4, h5, -⟩ := hc
  omega
theorem eV_obj {F : CF} {u : CS} {t : DS} {rho : Nat → Nat} (h : Rl u t rho) (hc : cOk F u) (hk : dOk t) {a b : Int32} (hg : gV' t a b) {i : Nat} (hi : i < nU u) (he : eV rho a b = oB i) : ∃ o, o < gM t ∧ a = 2 ∧ b = nI o ∧ dRe t o ∧ rho o = i := by
  have hi2 : i < 2147483648 := by
    obtain ⟨h2, h3, h4, h5, -⟩ := hc
    omega
  rcases hg with ⟨rfl, -⟩ | rfl | ⟨rfl, o, ho, rfl, hr⟩
  · rw [eV_0] at he; exact absurd he (nO_oB hi2)
  · rw [eV_1] at he; exact absurd he (num_oB _ hi2)
  · have hm := hk.2.1
    rw [eV_2 _ (by omega)] at he
    exact ⟨o, ho, rfl, rfl, hr, oB_inj (h.lt hc hr) hi2 he⟩
theorem eV_same {F : CF} {u : CS} {t : DS} {rho : Nat → Nat} (h : Rl u t rho) (hc : cOk F u) (hk : dOk t) {a b x y : Int32} (h1 : gV' t a b) (h2 : gV' t x y) (he : eV rho a b = eV rho x y) : a = x ∧ b = y := by
  have hm := hk.2.1
  rcases h1 with ⟨rfl, rfl⟩ | rfl | ⟨rfl, o, ho, rfl, hr⟩ <;> rcases h2 with ⟨rfl, rfl⟩ | rfl | ⟨rfl, o', ho', rfl, hr'⟩
  · exact ⟨rfl, rfl⟩
  · rw [eV_0, eV_1] at he; exact absurd he.symm (num_nO _)
  · rw [eV_0, eV_2 _ (by omega)] at he; exact absurd he (nO_oB (h.lt hc hr'))
  · rw [eV_0, eV_1] at he; exact absurd he (num_nO _)
  · rw [eV_1, eV_1] at he; exact ⟨rfl, num_inj he⟩
  · rw [eV_1, eV_2 _ (by omega)] at he; exact absurd he (num_oB _ (h.lt hc hr'))
  · rw [eV_0, eV_2 _ (by omega)] at he; exact absurd he.symm (nO_oB (h.lt hc hr))
  · rw [eV_1, eV_2 _ (by omega)] at he; exact absurd he.symm (num_oB _ (h.lt hc hr))
  · rw [eV_2 _ (by omega), eV_2 _ (by omega)] at he
    have e := h.2.2.2.2.2.2 o o' hr hr' (oB_inj (h.lt hc hr) (h.lt hc hr') he)
    subst e
    exact ⟨rfl, rfl⟩
/-- what is reached is the same on both sides -/
theorem Rl.to {u : CS} {t : DS} {rho : Nat → Nat} (h : Rl u t rho) (hk : dOk t) {o : Nat} (ho : dRe t o) : cRe u (rho o) := by
  have hm := hk.2.1
  have key : dRe t o ∧ cRe u (rho o) := by
    refine ho (fun o => dRe t o ∧ cRe u (rho o)) (fun x hx hr => ?_) (fun x y hxx hy hxy => ?_)
    · have hd := dRe.root hx hr
      refine ⟨hd, cRe.root (h.2.2.2.2.2.1 x hd).1 ?_⟩
      obtain ⟨p, hp, h1, h2⟩ := hr
      by_cases hp2 : p < 10
      · refine Or.inl ⟨p, hp2, ?_⟩
        rw [h.2.2.2.1 p hp2, h1, h2, eV_2 _ (by omega)]
      · refine Or.inr ⟨p - 10, by rw [h.1]; omega, ?_⟩
        rw [h.2.2.2.2.1 (p - 10) (by omega), show 10 + (p - 10) = p by omega, h1, h2, eV_2 _ (by omega)]
    · obtain ⟨hdx, hcx⟩ := hxx
      have hd := hdx.step hy hxy
      refine ⟨hd, hcx.step (h.2.2.2.2.2.1 y hd).1 ?_⟩
      obtain ⟨k, hk1, h1, h2⟩ := hxy
      refine ⟨k, by rw [(h.2.2.2.2.2.1 x hdx).2.1]; exact hk1, ?_⟩
      rw [(h.2.2.2.2.2.1 x hdx).2.2 k hk1, h1, h2, eV_2 _ (by omega)]
  exact key.2
theorem Rl.back {F : CF} {u : CS} {t : DS} {rho : Nat → Nat} (h : Rl u t rho) (hc : cOk F u) (hk : dOk t) {i : Nat} (hi : cRe u i) : ∃ o, dRe t o ∧ rho o = i := by
  refine hi (fun i => ∃ o, dRe t o ∧ rho o = i) (fun x hx hr => ?_) (fun x y hxx hy hxy => ?_)
  · rcases hr with ⟨r, hr, he⟩ | ⟨j, hj, he⟩
    · rw [h.2.2.2.1 r hr] at he
      obtain ⟨o, -, -, -, h4, h5⟩ := eV_obj h hc hk (gV'.reg hk (by omega)) hx he
      exact ⟨o, h4, h5⟩
    · rw [h.1] at hj
      rw [h.2.2.2.2.1 j hj] at he
      obtain ⟨o, -, -, -, h4, h5⟩ := eV_obj h hc hk (gV'.reg hk (by omega)) hx he
      exact ⟨o, h4, h5⟩
  · obtain ⟨o, ho, rfl⟩ := hxx
    obtain ⟨k, hk1, he⟩ := hxy
    obtain ⟨h1, h2, h3⟩ := h.2.2.2.2.2.1 o ho
    rw [h2] at hk1
    rw [h3 k hk1] at he
    obtain ⟨b, -, -, -, h4, h5⟩ := eV_obj h hc hk (gV'.val hk ho hk1) hy he
    exact ⟨b, h4, h5⟩
/-- the two sums are one -/
theorem Rl.sums {F : CF} {u : CS} {t : DS} {rho : Nat → Nat} (h : Rl u t rho) (hc : cOk F u) (hk : dOk t) {rc R : Nat → Bool} (h1 : ∀ i, i < nU u → (rc i = true ↔ cRe u i)) (h2 : ∀ o, o < gM t → (R o = true ↔ dRe t o)) : sm R (fun o => 2 + gS t o) (gM t) = sm rc (fun i => 2 + sZ u i) (nU u) ∧ sm R (fun _ => 1) (gM t) = sm rc (fun _ => 1) (nU u) := by
  have hinj : ∀ a b, a < gM t → b < gM t → R a = true → R b = true → rho a = rho b → a = b := fun a b ha hb hRa hRb => h.2.2.2.2.2.2 a b ((h2 a ha).mp hRa) ((h2 b hb).mp hRb)
  have hsur : ∀ i, i < nU u → rc i = true → ∃ o, o < gM t ∧ R o = true ∧ rho o = i := fun i hi hri => by
    obtain ⟨o, ho, hoi⟩ := h.back hc hk ((h1 i hi).mp hri)
    exact ⟨o, ho.lt, (h2 o ho.lt).mpr ho, hoi⟩
  constructor
  · refine sm_bij (rho := rho) _ _ (fun o ho hro => ?_) hinj hsur
    have hd := (h2 o ho).mp hro
    obtain ⟨g1, g2, -⟩ := h.2.2.2.2.2.1 o hd
    exact ⟨g1, (h1 _ g1).mpr (h.to hk hd), by rw [g2]⟩
  · refine sm_bij (rho := rho) _ _ (fun o ho hro => ?_) hinj hsur
    have hd := (h2 o ho).mp hro
    obtain ⟨g1, g2, -⟩ := h.2.2.2.2.2.1 o hd
    exact ⟨g1, (h1 _ g1).mpr (h.to hk hd), rfl⟩
