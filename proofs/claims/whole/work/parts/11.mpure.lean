/-! the reference's walk -/
def gSd (t : DS) (R : Nat → Bool) : Prop := ∀ o, o < gM t → R o = true → dRe t o
def gRt (t : DS) (R : Nat → Bool) (z : Nat) : Prop := ∀ p, p < z → ∀ o, o < gM t → gK t p = 2 → gV t p = nI o → R o = true
def gCl (t : DS) (R : Nat → Bool) (x z : Nat) : Prop := ∀ q, q < z → ∀ o, o < gM t → gK t (pL x q) = 2 → gV t (pL x q) = nI o → R o = true
theorem DW.of {t : DS} {R : Nat → Bool} (h1 : gSd t R) (h2 : gRt t R (10 + gT t)) (h3 : ∀ x, x < gM t → R x = true → gCl t R x (gS t x)) : DW t R := by
  intro o ho
  refine ⟨fun h => h1 o ho h, fun h => ?_⟩
  have key : o < gM t ∧ R o = true := by
    refine h (fun x => x < gM t ∧ R x = true) (fun x hx hr => ⟨hx, ?_⟩) (fun x y hx hy hxy => ⟨hy, ?_⟩)
    · obtain ⟨p, hp, h4, h5⟩ := hr
      exact h2 p hp x hx h4 h5
    · obtain ⟨q, hq, h4, h5⟩ := hxy
      exact h3 x hx.1 hx.2 q hq y hy h4 h5
  exact key.2
/-- a pass: from R0, at object k and place i, R is marked, and b says whether something was -/
def gPs (t : DS) (R0 : Nat → Bool) (k i : Nat) (R : Nat → Bool) (b : Bool) : Prop := gSd t R ∧ (∀ o, o < gM t → R0 o = true → R o = true) ∧ (b = true → sm R0 (fun _ => 1) (gM t) < sm R (fun _ => 1) (gM t)) ∧ (b = false → (∀ o, o < gM t → R o = R0 o) ∧ (∀ x, x < k → R x = true → gCl t R x (gS t x)) ∧ (R k = true → gCl t R k i))
/-- what reach answers at place p -/
def gRh (t : DS) (R : Nat → Bool) (p : Nat) (x : Int32) (R' : Nat → Bool) : Prop := (∃ o, o < gM t ∧ gK t p = 2 ∧ gV t p = nI o ∧ R o = false ∧ x = 1 ∧ R' = va_up R o true) ∨ ((gK t p = 2 → ∃ o, o < gM t ∧ gV t p = nI o ∧ R o = true) ∧ x = 0 ∧ R' = R)
theorem up_mono {R : Nat → Bool} {o x : Nat} (h : R x = true) : va_up R o true x = true := by
  by_cases e : x = o
  · rw [e, va_up_self]
  · rw [va_up_ne _ _ e]; exact h
theorem gRh.mono {t : DS} {R R' : Nat → Bool} {p : Nat} {x : Int32} (h : gRh t R p x R') {y : Nat} (hy : R y = true) : R' y = true := by
  rcases h with ⟨o, -, -, -, -, -, rfl⟩ | ⟨-, -, rfl⟩
  · exact up_mono hy
  · exact hy
theorem gRh.here {t : DS} (hm : gM t ≤ 512) {R R' : Nat → Bool} {p : Nat} {x : Int32} (h : gRh t R p x R') {o : Nat} (ho : o < gM t) (h2 : gK t p = 2) (hv : gV t p = nI o) : R' o = true := by
  rcases h with ⟨y, hy, -, hv2, -, -, rfl⟩ | ⟨h, -, rfl⟩
  · rw [nI_inj (by omega) (by omega) (hv.symm.trans hv2), va_up_self]
  · obtain ⟨y, hy, hv2, hr⟩ := h h2
    rw [nI_inj (by omega) (by omega) (hv.symm.trans hv2)]; exact hr
theorem gRh.sound {t : DS} {R R' : Nat → Bool} {p : Nat} {x : Int32} (h : gRh t R p x R') (hs : gSd t R) (hp : ∀ o, o < gM t → gK t p = 2 → gV t p = nI o → dRe t o) : gSd t R' := by
  rcases h with ⟨y, hy, hk, hv2, -, -, rfl⟩ | ⟨h, -, rfl⟩
  · intro o ho hr
    by_cases e : o = y
    · rw [e]; exact hp y hy hk hv2
    · rw [va_up_ne _ _ e] at hr; exact hs o ho hr
  · exact hs
theorem gPs.step {t : DS} (hm : gM t ≤ 512) {R0 R R' : Nat → Bool} {k i : Nat} {b : Bool} {x : Int32} (h : gPs t R0 k i R b) (hk : k < gM t) (hi : i < gS t k) (hr : R k = true) (hx : gRh t R (pL k i) x R') : gPs t R0 k (i + 1) R' (decide (¬ x = 0) || b) := by
  obtain ⟨h1, h2, h3, h4⟩ := h
  have hd : dRe t k := h1 k hk hr
  refine ⟨hx.sound h1 (fun o ho hk2 hv => hd.step ho ⟨i, hi, hk2, hv⟩), fun o ho h0 => hx.mono (h2 o ho h0), fun hb => ?_, fun hb => ?_⟩
  · have hle : sm R0 (fun _ => 1) (gM t) ≤ sm R (fun _ => 1) (gM t) := by
      cases b with
      | true => exact Nat.le_of_lt (h3 rfl)
      | false => rw [sm_congr (fun o ho => ⟨(h4 rfl).1 o ho, fun _ => rfl⟩)]; exact Nat.le_refl _
    rcases hx with ⟨o, ho, -, -, hf, -, rfl⟩ | ⟨-, rfl, rfl⟩
    · rw [sm_up ho hf]; omega
    · have e : b = true := by simpa using hb
      exact h3 e
  · have hx0 : x = 0 ∧ b = false := by simpa using hb
    obtain ⟨rfl, rfl⟩ := hx0
    obtain ⟨g1, g2, g3⟩ := h4 rfl
    have e : R' = R := by
      rcases hx with ⟨_, _, _, _, _, e, _⟩ | ⟨_, _, e⟩
      · exact absurd e (by decide)
      · exact e
    have hx2 := hx
    subst e
    refine ⟨g1, g2, fun hrk q hq o ho k2 kv => ?_⟩
    by_cases e : q = i
    · subst e; exact hx2.here hm ho k2 kv
    · exact g3 hrk q (by omega) o ho k2 kv
theorem gPs.next {t : DS} {R0 R : Nat → Bool} {k i : Nat} {b : Bool} (h : gPs t R0 k i R b) (hi : gS t k ≤ i ∨ R k = false) : gPs t R0 (k + 1) 0 R b := by
  obtain ⟨h1, h2, h3, h4⟩ := h
  refine ⟨h1, h2, h3, fun hb => ?_⟩
  obtain ⟨g1, g2, g3⟩ := h4 hb
  refine ⟨g1, fun x hx hr => ?_, fun _ q hq => absurd hq (Nat.not_lt_zero q)⟩
  by_cases e : x = k
  · subst e
    rcases hi with hi | hi
    · exact fun q hq => g3 hr q (by omega)
    · rw [hr] at hi; cases hi
  · exact g2 x (by omega) hr
theorem gPs.start {t : DS} {R : Nat → Bool} (h : gSd t R) : gPs t R 0 0 R false := ⟨h, fun _ _ h => h, fun h => (by cases h), fun _ => ⟨fun _ _ => rfl, fun x hx => absurd hx (Nat.not_lt_zero x), fun _ q hq => absurd hq (Nat.not_lt_zero q)⟩⟩
/-- between passes -/
def gWh (t : DS) (R : Nat → Bool) (b : Bool) : Prop := gSd t R ∧ gRt t R (10 + gT t) ∧ (b = false → ∀ x, x < gM t → R x = true → gCl t R x (gS t x))
theorem gWh.pass {t : DS} {R0 R : Nat → Bool} {b0 b : Bool} (h : gWh t R0 b0) (hp : gPs t R0 (gM t) 0 R b) : gWh t R b := by
  obtain ⟨h1, h2, h3⟩ := h
  obtain ⟨g1, g2, g3, g4⟩ := hp
  exact ⟨g1, fun p hp o ho k2 kv => g2 o ho (h2 p hp o ho k2 kv), fun hb x hx hr => (g4 hb).2.1 x hx hr⟩
theorem gWh.less {t : DS} {R0 R : Nat → Bool} {b : Bool} (hp : gPs t R0 (gM t) 0 R b) : (if b = true then 1 else 0) + 2 * (gM t - sm R (fun _ => 1) (gM t)) < 1 + 2 * (gM t - sm R0 (fun _ => 1) (gM t)) := by
  obtain ⟨g1, g2, g3, g4⟩ := hp
  have hle := sm_le (f := R) (n := gM t)
  cases b with
  | true =>
    have := g3 rfl
    rw [if_pos rfl]
    omega
  | false =>
    rw [sm_congr (fun o ho => ⟨(g4 rfl).1 o ho, fun _ => rfl⟩)]
    simp
theorem nar_k {t : DS} {p : Nat} (hk : dOk t) (hp : dLv t p) : vp_nar .byte (gK t p) = gK t p := by
  rcases hk.2.2.2 p hp with ⟨h, -⟩ | h | ⟨h, -⟩ <;> rw [h] <;> decide
theorem pL_lt {t : DS} (hk : dOk t) {o k : Nat} (ho : o < gM t) (h : k < 20) : pL o k < 10460 := by
  have hm := hk.2.1
  unfold pL
  omega
theorem pL_I {o k : Nat} : nI 60 + nI 20 * nI o + nI k = nI (pL o k) := by
  rw [pk_mul, nI_add, nI_add]
  rfl
theorem fI_0 (f : Nat → Int32) (b : Nat) (x : Int32) : fI f b 0 x = f := by
  funext p
  exact fI_out (by omega)
theorem fI_s (f : Nat → Int32) (b k : Nat) (x : Int32) : upd (fI f b k x) (b + k) x = fI f b (k + 1) x := by
  funext p
  by_cases e : p = b + k
  · subst e; rw [pk_us, fI_in (by omega) (by omega)]
  · rw [pk_un e]
    by_cases h : b ≤ p ∧ p < b + k
    · rw [fI_in h.1 h.2, fI_in h.1 (by omega)]
    · rw [fI_out h, fI_out (by omega)]
theorem fI_mv {u : DS} {K0 V0 : Nat → Int32} {b q a : Nat} (ha : a < 10) : wV (wV u (fI K0 (pL b 0) q (K0 a)) (fI V0 (pL b 0) q (V0 a))) (upd (fI K0 (pL b 0) q (K0 a)) (pL b q) (fI K0 (pL b 0) q (K0 a) a)) (upd (fI V0 (pL b 0) q (V0 a)) (pL b q) (fI V0 (pL b 0) q (V0 a) a)) = wV u (upd (fI K0 (pL b 0) q (K0 a)) (pL b 0 + q) (K0 a)) (upd (fI V0 (pL b 0) q (V0 a)) (pL b 0 + q) (V0 a)) := by
  have h : ¬ (pL b 0 ≤ a ∧ a < pL b 0 + q) := by have := pL_ge b 0; omega
  have e : pL b q = pL b 0 + q := by unfold pL; omega
  rw [fI_out h, fI_out h, e]
