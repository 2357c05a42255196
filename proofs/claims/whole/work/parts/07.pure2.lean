/-! the calls, on both sides -/
theorem dRe.sub {t t' : DS} {o : Nat} (h : dRe t' o) (hM : gM t' = gM t) (hr : ∀ o, o < gM t → dRt t' o → dRe t o) (he : ∀ a b, dRe t a → b < gM t → dEd t' a b → dRe t b) : dRe t o :=
  h (fun o => dRe t o) (fun x hx hrx => hr x (by rw [← hM]; exact hx) hrx) (fun x y hx hy hxy => he x y hx (by rw [← hM]; exact hy) hxy)
theorem gV'.cls {t : DS} {a b : Int32} (h : gV' t a b) : (a = 0 ∧ b = 0) ∨ a = 1 ∨ (a = 2 ∧ ∃ o, o < gM t ∧ b = nI o) := by
  rcases h with h | h | ⟨h, o, ho, hb, -⟩
  · exact Or.inl h
  · exact Or.inr (Or.inl h)
  · exact Or.inr (Or.inr ⟨h, o, ho, hb⟩)
theorem gV'.obj {t : DS} {a b : Int32} (h : gV' t a b) (hm : gM t ≤ 512) {x : Nat} (hx : x < 1024) (ha : a = 2) (hb : b = nI x) : dRe t x := by
  rcases h with ⟨h, -⟩ | h | ⟨h, o, ho, hb2, hd⟩
  · rw [ha] at h; exact absurd h (by decide)
  · rw [ha] at h; exact absurd h (by decide)
  · rw [hb] at hb2
    rw [nI_inj (by omega) (by omega) hb2]
    exact hd
theorem pL_inj {a b j k : Nat} (hj : j < 20) (hk : k < 20) (h : pL a j = pL b k) : a = b ∧ j = k := by
  unfold pL at h
  omega
theorem pL_ge (a k : Nat) : 60 ≤ pL a k := by unfold pL; omega
theorem Rl.reg {u : CS} {t : DS} {rho : Nat → Nat} (h : Rl u t rho) (hk : dOk t) {r : Nat} (hr : r < 10) {a b : Int32} (hg : gV' t a b) :
    Rl (uR u (vp_updL (rG u) r (eV rho a b))) (wV t (upd (gK t) r a) (upd (gV t) r b)) rho ∧ dOk (wV t (upd (gK t) r a) (upd (gV t) r b)) := by
  have hne : ∀ o k, pL o k ≠ r := fun o k e => by have := pL_ge o k; omega
  have hm := hk.2.1
  have sub : ∀ o, dRe (wV t (upd (gK t) r a) (upd (gV t) r b)) o → dRe t o := by
    intro o ho
    refine dRe.sub (t := t) ho rfl (fun x hx hrx => ?_) (fun x y hx hy hxy => ?_)
    · obtain ⟨p, hp, h1, h2⟩ := hrx
      have hp : p < 10 + gT t := hp
      have h1 : upd (gK t) r a p = 2 := h1
      have h2 : upd (gV t) r b p = nI x := h2
      by_cases e : p = r
      · subst e
        rw [pk_us] at h1 h2
        exact hg.obj hm (by omega) h1 h2
      · rw [pk_un e] at h1 h2
        exact dRe.root hx ⟨p, hp, h1, h2⟩
    · obtain ⟨k, hk1, h1, h2⟩ := hxy
      have h1 : upd (gK t) r a (pL x k) = 2 := h1
      have h2 : upd (gV t) r b (pL x k) = nI y := h2
      rw [pk_un (hne x k)] at h1 h2
      exact hx.step hy ⟨k, hk1, h1, h2⟩
  constructor
  · refine ⟨h.1, h.2.1, h.2.2.1, fun j hj => ?_, fun j hj => ?_, fun o ho => ?_, fun x y hx hy => h.2.2.2.2.2.2 x y (sub x hx) (sub y hy)⟩
    · show vp_updL (rG u) r (eV rho a b) j = eV rho (upd (gK t) r a j) (upd (gV t) r b j)
      by_cases e : j = r
      · subst e; rw [pk_uLs, pk_us, pk_us]
      · rw [pk_uLn e, pk_un e, pk_un e]; exact h.2.2.2.1 j hj
    · show sK u j = eV rho (upd (gK t) r a (10 + j)) (upd (gV t) r b (10 + j))
      rw [pk_un (by omega), pk_un (by omega)]; exact h.2.2.2.2.1 j hj
    · obtain ⟨g1, g2, g3⟩ := h.2.2.2.2.2.1 o (sub o ho)
      refine ⟨g1, g2, fun k hk1 => ?_⟩
      show vS u (rho o) k = eV rho (upd (gK t) r a (pL o k)) (upd (gV t) r b (pL o k))
      rw [pk_un (hne o k), pk_un (hne o k)]; exact g3 k hk1
  · refine ⟨hk.1, hk.2.1, hk.2.2.1, fun p hp => ?_⟩
    show (upd (gK t) r a p = 0 ∧ upd (gV t) r b p = 0) ∨ upd (gK t) r a p = 1 ∨ (upd (gK t) r a p = 2 ∧ ∃ o, o < gM t ∧ upd (gV t) r b p = nI o)
    by_cases e : p = r
    · subst e; rw [pk_us, pk_us]; exact hg.cls
    · rw [pk_un e, pk_un e]; exact hk.2.2.2 p hp
theorem Rl.pop {u : CS} {t : DS} {rho : Nat → Nat} (h : Rl u t rho) (hk : dOk t) {n : Nat} (hn : n < gT t) : Rl (uT u n) (wT t n) rho ∧ dOk (wT t n) := by
  have sub : ∀ o, dRe (wT t n) o → dRe t o := by
    intro o ho
    refine dRe.sub (t := t) ho rfl (fun x hx hrx => ?_) (fun x y hx hy hxy => hx.step hy hxy)
    obtain ⟨p, hp, h1, h2⟩ := hrx
    have hp : p < 10 + n := hp
    exact dRe.root hx ⟨p, by omega, h1, h2⟩
  constructor
  · refine ⟨rfl, h.2.1, h.2.2.1, h.2.2.2.1, fun j hj => ?_, fun o ho => h.2.2.2.2.2.1 o (sub o ho), fun x y hx hy => h.2.2.2.2.2.2 x y (sub x hx) (sub y hy)⟩
    have hj : j < n := hj
    exact h.2.2.2.2.1 j (by omega)
  · have h50 := hk.1
    refine ⟨by show n ≤ 50; omega, hk.2.1, hk.2.2.1, fun p hp => hk.2.2.2 p ?_⟩
    rcases hp with hp | hp
    · have hp : p < 10 + n := hp
      exact Or.inl (by omega)
    · exact Or.inr hp
theorem Rl.push {u : CS} {t : DS} {rho : Nat → Nat} (h : Rl u t rho) (hk : dOk t) (hs : gT t < 50) {a b : Int32} (hg : gV' t a b) :
    Rl (uT (uS u (vp_updL (sK u) (gT t) (eV rho a b))) (gT t + 1)) (wT (wV t (upd (gK t) (10 + gT t) a) (upd (gV t) (10 + gT t) b)) (gT t + 1)) rho ∧ dOk (wT (wV t (upd (gK t) (10 + gT t) a) (upd (gV t) (10 + gT t) b)) (gT t + 1)) := by
  have hne : ∀ o k, pL o k ≠ 10 + gT t := fun o k e => by have := pL_ge o k; omega
  have hm := hk.2.1
  have sub : ∀ o, dRe (wT (wV t (upd (gK t) (10 + gT t) a) (upd (gV t) (10 + gT t) b)) (gT t + 1)) o → dRe t o := by
    intro o ho
    refine dRe.sub (t := t) ho rfl (fun x hx hrx => ?_) (fun x y hx hy hxy => ?_)
    · obtain ⟨p, hp, h1, h2⟩ := hrx
      have hp : p < 10 + (gT t + 1) := hp
      have h1 : upd (gK t) (10 + gT t) a p = 2 := h1
      have h2 : upd (gV t) (10 + gT t) b p = nI x := h2
      by_cases e : p = 10 + gT t
      · subst e
        rw [pk_us] at h1 h2
        exact hg.obj hm (by omega) h1 h2
      · rw [pk_un e] at h1 h2
        exact dRe.root hx ⟨p, by omega, h1, h2⟩
    · obtain ⟨k, hk1, h1, h2⟩ := hxy
      have h1 : upd (gK t) (10 + gT t) a (pL x k) = 2 := h1
      have h2 : upd (gV t) (10 + gT t) b (pL x k) = nI y := h2
      rw [pk_un (hne x k)] at h1 h2
      exact hx.step hy ⟨k, hk1, h1, h2⟩
  constructor
  · refine ⟨rfl, h.2.1, h.2.2.1, fun j hj => ?_, fun j hj => ?_, fun o ho => ?_, fun x y hx hy => h.2.2.2.2.2.2 x y (sub x hx) (sub y hy)⟩
    · show rG u j = eV rho (upd (gK t) (10 + gT t) a j) (upd (gV t) (10 + gT t) b j)
      rw [pk_un (by omega), pk_un (by omega)]; exact h.2.2.2.1 j hj
    · have hj : j < gT t + 1 := hj
      show vp_updL (sK u) (gT t) (eV rho a b) j = eV rho (upd (gK t) (10 + gT t) a (10 + j)) (upd (gV t) (10 + gT t) b (10 + j))
      by_cases e : j = gT t
      · subst e; rw [pk_uLs, pk_us, pk_us]
      · rw [pk_uLn e, pk_un (by omega), pk_un (by omega)]; exact h.2.2.2.2.1 j (by omega)
    · obtain ⟨g1, g2, g3⟩ := h.2.2.2.2.2.1 o (sub o ho)
      refine ⟨g1, g2, fun k hk1 => ?_⟩
      show vS u (rho o) k = eV rho (upd (gK t) (10 + gT t) a (pL o k)) (upd (gV t) (10 + gT t) b (pL o k))
      rw [pk_un (hne o k), pk_un (hne o k)]; exact g3 k hk1
  · refine ⟨by show gT t + 1 ≤ 50; omega, hk.2.1, hk.2.2.1, fun p hp => ?_⟩
    show (upd (gK t) (10 + gT t) a p = 0 ∧ upd (gV t) (10 + gT t) b p = 0) ∨ upd (gK t) (10 + gT t) a p = 1 ∨ (upd (gK t) (10 + gT t) a p = 2 ∧ ∃ o, o < gM t ∧ upd (gV t) (10 + gT t) b p = nI o)
    by_cases e : p = 10 + gT t
    · subst e; rw [pk_us, pk_us]; exact hg.cls
    · rw [pk_un e, pk_un e]
      refine hk.2.2.2 p ?_
      rcases hp with hp | hp
      · have hp : p < 10 + (gT t + 1) := hp
        exact Or.inl (by omega)
      · exact Or.inr hp
/-- an object's values are changed: set, grow, shrink -/
theorem Rl.obj {u u' : CS} {t t' : DS} {rho : Nat → Nat} (h : Rl u t rho) (hk : dOk t) {o : Nat} (ho : dRe t o)
    (a1 : gT t' = gT t) (a2 : gM t' = gM t) (a3 : gF t' = gF t) (a4 : ∀ x, x ≠ o → gS t' x = gS t x) (a5 : gS t' o ≤ 20) (a6 : ∀ p, (∀ k, k < 20 → p ≠ pL o k) → gK t' p = gK t p ∧ gV t' p = gV t p) (a7 : ∀ k, k < gS t' o → gV' t (gK t' (pL o k)) (gV t' (pL o k)))
    (b1 : sT u' = sT u) (b2 : mD u' = mD u) (b3 : fU u' = fU u) (b4 : rG u' = rG u) (b5 : sK u' = sK u) (b6 : nU u' = nU u) (b7 : ∀ i, i ≠ rho o → sZ u' i = sZ u i ∧ vS u' i = vS u i) (b8 : sZ u' (rho o) = gS t' o) (b9 : ∀ k, k < gS t' o → vS u' (rho o) k = eV rho (gK t' (pL o k)) (gV t' (pL o k))) :
    Rl u' t' rho ∧ dOk t' := by
  have hm := hk.2.1
  have h50 := hk.1
  have low : ∀ p, p < 60 → gK t' p = gK t p ∧ gV t' p = gV t p := fun p hp => a6 p (fun k _ e => by have := pL_ge o k; omega)
  have oth : ∀ x k, x ≠ o → k < 20 → gK t' (pL x k) = gK t (pL x k) ∧ gV t' (pL x k) = gV t (pL x k) := fun x k hx hk2 => a6 _ (fun j hj e => hx (pL_inj hk2 hj e).1)
  have sub : ∀ x, dRe t' x → dRe t x := by
    intro x hx
    refine dRe.sub (t := t) hx a2 (fun x hx hrx => ?_) (fun x y hx hy hxy => ?_)
    · obtain ⟨p, hp, h1, h2⟩ := hrx
      rw [a1] at hp
      rw [(low p (by omega)).1] at h1
      rw [(low p (by omega)).2] at h2
      exact dRe.root hx ⟨p, hp, h1, h2⟩
    · obtain ⟨k, hk1, h1, h2⟩ := hxy
      by_cases e : x = o
      · subst e
        exact (a7 k hk1).obj hm (by omega) h1 h2
      · rw [a4 x e] at hk1
        have hk20 : k < 20 := by have := hk.2.2.1 x hx.lt; omega
        rw [(oth x k e hk20).1] at h1
        rw [(oth x k e hk20).2] at h2
        exact hx.step hy ⟨k, hk1, h1, h2⟩
  constructor
  · refine ⟨by rw [b1, a1]; exact h.1, by rw [b2, a2]; exact h.2.1, by rw [b3, a3]; exact h.2.2.1, fun j hj => ?_, fun j hj => ?_, fun x hx => ?_, fun x y hx hy => h.2.2.2.2.2.2 x y (sub x hx) (sub y hy)⟩
    · rw [b4, (low j (by omega)).1, (low j (by omega)).2]; exact h.2.2.2.1 j hj
    · rw [a1] at hj
      rw [b5, (low (10 + j) (by omega)).1, (low (10 + j) (by omega)).2]; exact h.2.2.2.2.1 j hj
    · obtain ⟨g1, g2, g3⟩ := h.2.2.2.2.2.1 x (sub x hx)
      by_cases e : x = o
      · subst e
        exact ⟨by rw [b6]; exact g1, b8, b9⟩
      · have hne : rho x ≠ rho o := fun q => e (h.2.2.2.2.2.2 x o (sub x hx) ho q)
        refine ⟨by rw [b6]; exact g1, by rw [(b7 _ hne).1, a4 x e]; exact g2, fun k hk1 => ?_⟩
        rw [a4 x e] at hk1
        have hk20 : k < 20 := by have := hk.2.2.1 x (sub x hx).lt; omega
        rw [(b7 _ hne).2, (oth x k e hk20).1, (oth x k e hk20).2]
        exact g3 k hk1
  · refine ⟨by rw [a1]; exact h50, by rw [a2]; exact hm, fun x hx => ?_, fun p hp => ?_⟩
    · by_cases e : x = o
      · subst e; exact a5
      · rw [a4 x e]; exact hk.2.2.1 x (by rw [← a2]; exact hx)
    · rw [a2]
      rcases hp with hp | ⟨x, k, hx, hk1, rfl⟩
      · rw [a1] at hp
        rw [(low p (by omega)).1, (low p (by omega)).2]
        exact hk.2.2.2 p (Or.inl hp)
      · by_cases e : x = o
        · subst e; exact (a7 k hk1).cls
        · rw [a4 x e] at hk1
          rw [a2] at hx
          have hk20 : k < 20 := by have := hk.2.2.1 x hx; omega
          rw [(oth x k e hk20).1, (oth x k e hk20).2]
          exact hk.2.2.2 _ (Or.inr ⟨x, k, hx, hk1, rfl⟩)
theorem eV_up {t : DS} (hm : gM t ≤ 512) {rho : Nat → Nat} {i : Nat} {a b : Int32} (h : (a = 0 ∧ b = 0) ∨ a = 1 ∨ (a = 2 ∧ ∃ o, o < gM t ∧ b = nI o)) : eV (va_up rho (gM t) i) a b = eV rho a b := by
  rcases h with ⟨rfl, -⟩ | rfl | ⟨rfl, o, ho, rfl⟩
  · rw [eV_0, eV_0]
  · rw [eV_1, eV_1]
  · rw [eV_2 _ (by omega), eV_2 _ (by omega), va_up_ne _ _ (show o ≠ gM t by omega)]
/-- a new object -/
theorem Rl.make {u u' : CS} {t t' : DS} {rho : Nat → Nat} (h : Rl u t rho) (hk : dOk t) {r k i : Nat} {a b : Int32} (hr : r < 10) (hk20 : k ≤ 20) (hM : gM t < 512) (hg : gV' t a b) (hi : ∀ o, dRe t o → rho o ≠ i)
    (a1 : gT t' = gT t) (a2 : gM t' = gM t + 1) (a3 : gF t' = gF t) (a4 : ∀ x, x ≠ gM t → gS t' x = gS t x) (a5 : gS t' (gM t) = k) (a6 : ∀ p, p ≠ r → (∀ j, j < 20 → p ≠ pL (gM t) j) → gK t' p = gK t p ∧ gV t' p = gV t p) (a7 : ∀ j, j < k → gK t' (pL (gM t) j) = a ∧ gV t' (pL (gM t) j) = b) (a8 : gK t' r = 2 ∧ gV t' r = nI (gM t))
    (b1 : sT u' = sT u) (b2 : mD u' = mD u + 1) (b3 : fU u' = fU u) (b4 : ∀ j, j ≠ r → rG u' j = rG u j) (b4r : rG u' r = oB i) (b5 : sK u' = sK u) (b6 : nU u ≤ nU u') (b6i : i < nU u') (b7 : ∀ x, x < nU u → x ≠ i → sZ u' x = sZ u x ∧ vS u' x = vS u x) (b8 : sZ u' i = k) (b9 : ∀ j, j < k → vS u' i j = eV rho a b) :
    Rl u' t' (va_up rho (gM t) i) ∧ dOk t' := by
  have hm := hk.2.1
  have h50 := hk.1
  have low : ∀ p, p < 60 → p ≠ r → gK t' p = gK t p ∧ gV t' p = gV t p := fun p hp hpr => a6 p hpr (fun j _ e => by have := pL_ge (gM t) j; omega)
  have oth : ∀ x j, x ≠ gM t → j < 20 → gK t' (pL x j) = gK t (pL x j) ∧ gV t' (pL x j) = gV t (pL x j) := fun x j hx hj => a6 _ (fun e => by have := pL_ge x j; omega) (fun j2 hj2 e => hx (pL_inj hj hj2 e).1)
  have sub : ∀ x, dRe t' x → x = gM t ∨ dRe t x := by
    intro x hx
    refine hx (fun x => x = gM t ∨ dRe t x) (fun x hx hrx => ?_) (fun x y hx hy hxy => ?_)
    · rw [a2] at hx
      by_cases e : x = gM t
      · exact Or.inl e
      · obtain ⟨p, hp, h1, h2⟩ := hrx
        rw [a1] at hp
        by_cases ep : p = r
        · subst ep
          rw [a8.2] at h2
          exact Or.inl (nI_inj (by omega) (by omega) h2).symm
        · rw [(low p (by omega) ep).1] at h1
          rw [(low p (by omega) ep).2] at h2
          exact Or.inr (dRe.root (by omega) ⟨p, hp, h1, h2⟩)
    · rw [a2] at hy
      by_cases ey : y = gM t
      · exact Or.inl ey
      · obtain ⟨j, hj, h1, h2⟩ := hxy
        rcases hx with hx | hx
        · subst hx
          rw [a5] at hj
          rw [(a7 j hj).1] at h1
          rw [(a7 j hj).2] at h2
          exact Or.inr (hg.obj hm (by omega) h1 h2)
        · have hxl := hx.lt
          rw [a4 x (by omega)] at hj
          have hj20 : j < 20 := by have := hk.2.2.1 x hxl; omega
          rw [(oth x j (by omega) hj20).1] at h1
          rw [(oth x j (by omega) hj20).2] at h2
          exact Or.inr (hx.step (by omega) ⟨j, hj, h1, h2⟩)
  have live : ∀ p, dLv t p → eV (va_up rho (gM t) i) (gK t p) (gV t p) = eV rho (gK t p) (gV t p) := fun p hp => eV_up hm (hk.2.2.2 p hp)
  constructor
  · refine ⟨by rw [b1, a1]; exact h.1, by rw [b2, a2, h.2.1], by rw [b3, a3]; exact h.2.2.1, fun j hj => ?_, fun j hj => ?_, fun x hx => ?_, fun x y hx hy hxy => ?_⟩
    · by_cases e : j = r
      · subst e
        rw [b4r, a8.1, a8.2, eV_2 _ (by omega), va_up_self]
      · rw [b4 j e, (low j (by omega) e).1, (low j (by omega) e).2, live j (Or.inl (by omega))]
        exact h.2.2.2.1 j hj
    · rw [a1] at hj
      rw [b5, (low (10 + j) (by omega) (by omega)).1, (low (10 + j) (by omega) (by omega)).2, live _ (Or.inl (by omega))]
      exact h.2.2.2.2.1 j hj
    · by_cases e : x = gM t
      · subst e
        rw [va_up_self, a5]
        refine ⟨b6i, b8, fun j hj => ?_⟩
        rw [b9 j hj, (a7 j hj).1, (a7 j hj).2, eV_up hm hg.cls]
      · have hd : dRe t x := (sub x hx).resolve_left e
        obtain ⟨g1, g2, g3⟩ := h.2.2.2.2.2.1 x hd
        rw [va_up_ne _ _ e, a4 x e]
        obtain ⟨c1, c2⟩ := b7 (rho x) g1 (hi x hd)
        refine ⟨by omega, by rw [c1]; exact g2, fun j hj => ?_⟩
        have hj20 : j < 20 := by have := hk.2.2.1 x hd.lt; omega
        rw [c2, (oth x j e hj20).1, (oth x j e hj20).2, live _ (Or.inr ⟨x, j, hd.lt, hj, rfl⟩)]
        exact g3 j hj
    · rcases sub x hx with ex | dx <;> rcases sub y hy with ey | dy
      · rw [ex, ey]
      · have hyl := dy.lt
        rw [ex, va_up_self, va_up_ne _ _ (show y ≠ gM t by omega)] at hxy
        exact absurd hxy.symm (hi y dy)
      · have hxl := dx.lt
        rw [ey, va_up_self, va_up_ne _ _ (show x ≠ gM t by omega)] at hxy
        exact absurd hxy (hi x dx)
      · have hxl := dx.lt
        have hyl := dy.lt
        rw [va_up_ne _ _ (show x ≠ gM t by omega), va_up_ne _ _ (show y ≠ gM t by omega)] at hxy
        exact h.2.2.2.2.2.2 x y dx dy hxy
  · have wk : ∀ a b : Int32, ((a = 0 ∧ b = 0) ∨ a = 1 ∨ (a = 2 ∧ ∃ o, o < gM t ∧ b = nI o)) → (a = 0 ∧ b = 0) ∨ a = 1 ∨ (a = 2 ∧ ∃ o, o < gM t + 1 ∧ b = nI o) := by
      intro a b h
      rcases h with h | h | ⟨h, o, ho, hb⟩
      · exact Or.inl h
      · exact Or.inr (Or.inl h)
      · exact Or.inr (Or.inr ⟨h, o, by omega, hb⟩)
    refine ⟨by rw [a1]; exact h50, by rw [a2]; omega, fun x hx => ?_, fun p hp => ?_⟩
    · by_cases e : x = gM t
      · subst e; rw [a5]; exact hk20
      · rw [a4 x e]; exact hk.2.2.1 x (by omega)
    · rw [a2]
      rcases hp with hp | ⟨x, j, hx, hj, rfl⟩
      · rw [a1] at hp
        by_cases e : p = r
        · subst e
          exact Or.inr (Or.inr ⟨a8.1, gM t, by omega, a8.2⟩)
        · rw [(low p (by omega) e).1, (low p (by omega) e).2]
          exact wk _ _ (hk.2.2.2 p (Or.inl hp))
      · by_cases e : x = gM t
        · subst e
          rw [a5] at hj
          rw [(a7 j hj).1, (a7 j hj).2]
          exact wk _ _ hg.cls
        · rw [a4 x e] at hj
          rw [a2] at hx
          have hj20 : j < 20 := by have := hk.2.2.1 x (by omega); omega
          rw [(oth x j e hj20).1, (oth x j e hj20).2]
          exact wk _ _ (hk.2.2.2 _ (Or.inr ⟨x, j, by omega, hj, rfl⟩))
