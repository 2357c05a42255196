/-! what the calls answer: the reference -/
def DW (t : DS) (R : Nat → Bool) : Prop := ∀ o, o < gM t → (R o = true ↔ dRe t o)
def dpNum (t : DS) (r v y : Int32) (w : DS) : Prop := (∃ j, j < 10 ∧ r = nI j ∧ y = 1 ∧ w = wV t (upd (gK t) j 1) (upd (gV t) j v)) ∨ (¬ isR r ∧ y = 0 ∧ w = t)
def dpCopy (t : DS) (r s y : Int32) (w : DS) : Prop := (∃ j, j < 10 ∧ r = nI j ∧ y = 1 ∧ ((s = -1 ∧ w = wV t (upd (gK t) j 0) (upd (gV t) j 0)) ∨ (¬ s = -1 ∧ ∃ k, k < 10 ∧ s = nI k ∧ w = wV t (upd (gK t) j (gK t k)) (upd (gV t) j (gV t k))))) ∨ ((¬ isR r ∨ (¬ s = -1 ∧ ¬ isR s)) ∧ y = 0 ∧ w = t)
def dgGet (t : DS) (r s k : Int32) (j a o q : Nat) : Prop := j < 10 ∧ r = nI j ∧ a < 10 ∧ s = nI a ∧ gK t a = 2 ∧ o < gM t ∧ gV t a = nI o ∧ q < gS t o ∧ k = nI q
def dpGet (t : DS) (r s k y : Int32) (w : DS) : Prop := (∃ j a o q, dgGet t r s k j a o q ∧ y = 1 ∧ w = wV t (upd (gK t) j (gK t (pL o q))) (upd (gV t) j (gV t (pL o q)))) ∨ ((¬ ∃ j a o q, dgGet t r s k j a o q) ∧ y = 0 ∧ w = t)
def dpSet (t : DS) (r k s y : Int32) (w : DS) : Prop := (∃ j a o q, dgGet t s r k j a o q ∧ y = 1 ∧ w = wV t (upd (gK t) (pL o q) (gK t j)) (upd (gV t) (pL o q) (gV t j))) ∨ ((¬ ∃ j a o q, dgGet t s r k j a o q) ∧ y = 0 ∧ w = t)
def dpPush (t : DS) (r y : Int32) (w : DS) : Prop := (∃ j, j < 10 ∧ r = nI j ∧ gT t < 50 ∧ y = nI (gT t + 1) ∧ w = wT (wV t (upd (upd (gK t) (10 + gT t) (gK t j)) j 0) (upd (upd (gV t) (10 + gT t) (gV t j)) j 0)) (gT t + 1)) ∨ (¬ (isR r ∧ gT t < 50) ∧ y = -1 ∧ w = t)
def dpPop (t : DS) (r y : Int32) (w : DS) : Prop := (∃ j n, j < 10 ∧ r = nI j ∧ gT t = n + 1 ∧ y = nI n ∧ w = wV (wT t n) (upd (gK t) j (gK t (10 + n))) (upd (gV t) j (gV t (10 + n)))) ∨ (¬ (isR r ∧ 0 < gT t) ∧ y = -1 ∧ w = t)
def dpLook (t : DS) (r y : Int32) (w : DS) : Prop := w = t ∧ ((¬ isR r ∧ y = -1) ∨ ∃ j, j < 10 ∧ r = nI j ∧ ((gK t j = 0 ∧ y = -2) ∨ (gK t j = 1 ∧ y = -3) ∨ ∃ o, gK t j = 2 ∧ o < gM t ∧ gV t j = nI o ∧ y = nI (gS t o)))
def dpNumIn (t : DS) (r y : Int32) (w : DS) : Prop := w = t ∧ ((∃ j, j < 10 ∧ r = nI j ∧ gK t j = 1 ∧ y = gV t j) ∨ ((¬ ∃ j, j < 10 ∧ r = nI j ∧ gK t j = 1) ∧ y = 0))
def dpSame (t : DS) (r s y : Int32) (w : DS) : Prop := w = t ∧ ((∃ j k, j < 10 ∧ r = nI j ∧ k < 10 ∧ s = nI k ∧ ((gK t j = gK t k ∧ gV t j = gV t k ∧ y = 1) ∨ (¬ (gK t j = gK t k ∧ gV t j = gV t k) ∧ y = 0))) ∨ (¬ (isR r ∧ isR s) ∧ y = -1))
def dpCount (t : DS) (q y : Int32) (w : DS) : Prop := ∃ R, DW t R ∧ w = wR t R ∧ ((q = 0 ∧ y = nI (sm R (fun o => 2 + gS t o) (gM t))) ∨ (q = 1 ∧ y = nI (sm R (fun _ => 1) (gM t))) ∨ (q = 2 ∧ y = nI (gT t)) ∨ (q = 3 ∧ y = nI (gM t)) ∨ (q = 4 ∧ y = nI (gF t)) ∨ (¬ q = 0 ∧ ¬ q = 1 ∧ ¬ q = 2 ∧ ¬ q = 3 ∧ ¬ q = 4 ∧ y = -1))
def dgShr (t : DS) (r : Int32) (j o n : Nat) : Prop := j < 10 ∧ r = nI j ∧ gK t j = 2 ∧ o < gM t ∧ gV t j = nI o ∧ gS t o = n + 1
def dpShr (t : DS) (r y : Int32) (w : DS) : Prop := (∃ j o n, dgShr t r j o n ∧ y = nI n ∧ w = wV (wS t (va_up (gS t) o n)) (upd (gK t) (pL o n) 0) (upd (gV t) (pL o n) 0)) ∨ ((¬ ∃ j o n, dgShr t r j o n) ∧ y = -1 ∧ w = t)
def dgGrow (t : DS) (r s : Int32) (j o a : Nat) : Prop := j < 10 ∧ r = nI j ∧ gK t j = 2 ∧ o < gM t ∧ gV t j = nI o ∧ a < 10 ∧ s = nI a ∧ gS t o < 20
def dpGrow (C : Nat) (t : DS) (r s y : Int32) (w : DS) : Prop := (∃ j o a R, dgGrow t r s j o a ∧ DW t R ∧ ((sm R (fun o => 2 + gS t o) (gM t) + 1 ≤ C ∧ y = nI (gS t o + 1) ∧ w = wS (wV (wR t R) (upd (gK t) (pL o (gS t o)) (gK t a)) (upd (gV t) (pL o (gS t o)) (gV t a))) (va_up (gS t) o (gS t o + 1))) ∨ (C < sm R (fun o => 2 + gS t o) (gM t) + 1 ∧ y = 0 ∧ w = wF (wR t R) (gF t + 1)))) ∨ ((¬ ∃ j o a, dgGrow t r s j o a) ∧ y = -1 ∧ w = t)
/-- k places from b on get x -/
def fI (f : Nat → Int32) (b k : Nat) (x : Int32) : Nat → Int32 := fun p => if b ≤ p ∧ p < b + k then x else f p
def dpMake (C : Nat) (t : DS) (r n s y : Int32) (w : DS) : Prop := (∃ j k a R, cgMake r n s j k a ∧ DW t R ∧ ((sm R (fun o => 2 + gS t o) (gM t) + (2 + k) ≤ C ∧ y = 1 ∧ w = wM (wV (wS (wR t R) (va_up (gS t) (gM t) k)) (upd (fI (gK t) (pL (gM t) 0) k (gK t a)) j 2) (upd (fI (gV t) (pL (gM t) 0) k (gV t a)) j (nI (gM t)))) (gM t + 1)) ∨ (C < sm R (fun o => 2 + gS t o) (gM t) + (2 + k) ∧ y = 0 ∧ w = wF (wR t R) (gF t + 1)))) ∨ ((¬ ∃ j k a, cgMake r n s j k a) ∧ y = -1 ∧ w = t)
/-! a call answers alike on both sides, and the states stay one -/
def Iv (F : CF) (u : CS) (t : DS) : Prop := ∃ rho, Rl u t rho ∧ cOk F u ∧ dOk t
theorem r_inj {a b : Nat} (ha : a < 100) (hb : b < 100) (h : nI a = nI b) : a = b := nI_inj (by omega) (by omega) h
theorem objc {F : CF} {u : CS} {t : DS} {rho : Nat → Nat} (h : Rl u t rho) (hc : cOk F u) (hk : dOk t) {a i : Nat} (ha : a < 10) (hi : i < nU u) (he : rG u a = oB i) : ∃ o, o < gM t ∧ gK t a = 2 ∧ gV t a = nI o ∧ dRe t o ∧ rho o = i := by
  rw [h.2.2.2.1 a ha] at he
  exact eV_obj h hc hk (gV'.reg hk (by omega)) hi he
theorem objd {u : CS} {t : DS} {rho : Nat → Nat} (h : Rl u t rho) (hk : dOk t) {a o : Nat} (ha : a < 10) (h2 : gK t a = 2) (ho : o < gM t) (hv : gV t a = nI o) : dRe t o ∧ rG u a = oB (rho o) ∧ rho o < nU u ∧ sZ u (rho o) = gS t o := by
  have hd : dRe t o := dRe.root ho ⟨a, by omega, h2, hv⟩
  have hm := hk.2.1
  refine ⟨hd, ?_, (h.2.2.2.2.2.1 o hd).1, (h.2.2.2.2.2.1 o hd).2.1⟩
  rw [h.2.2.2.1 a ha, h2, hv, eV_2 _ (by omega)]
theorem op_num {F : CF} {u u' : CS} {t t' : DS} {r v x y : Int32} (h : Iv F u t) (hc : cpNum u r v x u') (hd : dpNum t r v y t') : x = y ∧ Iv F u' t' := by
  obtain ⟨rho, h1, h2, h3⟩ := h
  rcases hc with ⟨j, hj, rfl, rfl, rfl⟩ | ⟨hn, rfl, rfl⟩ <;> rcases hd with ⟨i, hi, e, rfl, rfl⟩ | ⟨hn2, rfl, rfl⟩
  · have e := r_inj (by omega) (by omega) e
    subst e
    have := h1.reg h3 hj (a := 1) (b := v) (Or.inr (Or.inl rfl))
    rw [eV_1] at this
    exact ⟨rfl, rho, this.1, h2, this.2⟩
  · exact absurd ⟨j, hj, rfl⟩ hn2
  · exact absurd ⟨i, hi, e⟩ hn
  · exact ⟨rfl, rho, h1, h2, h3⟩
theorem op_copy {F : CF} {u u' : CS} {t t' : DS} {r s x y : Int32} (h : Iv F u t) (hc : cpCopy u r s x u') (hd : dpCopy t r s y t') : x = y ∧ Iv F u' t' := by
  obtain ⟨rho, h1, h2, h3⟩ := h
  rcases hc with ⟨j, hj, rfl, rfl, hc⟩ | ⟨hn, rfl, rfl⟩ <;> rcases hd with ⟨i, hi, e, rfl, hd⟩ | ⟨hn2, rfl, rfl⟩
  · have e := r_inj (by omega) (by omega) e
    subst e
    refine ⟨rfl, ?_⟩
    rcases hc with ⟨es, rfl⟩ | ⟨ns, k, hk, rfl, rfl⟩ <;> rcases hd with ⟨es2, rfl⟩ | ⟨ns2, k2, hk2, e2, rfl⟩
    · have := h1.reg h3 hj (a := 0) (b := 0) (Or.inl ⟨rfl, rfl⟩)
      rw [eV_0] at this
      exact ⟨rho, this.1, h2, this.2⟩
    · exact absurd es ns2
    · exact absurd es2 ns
    · have e2 := r_inj (by omega) (by omega) e2
      subst e2
      have := h1.reg h3 hj (gV'.reg h3 (p := k) (by omega))
      rw [← h1.2.2.2.1 k hk] at this
      exact ⟨rho, this.1, h2, this.2⟩
  · rcases hn2 with q | ⟨q1, q2⟩
    · exact absurd ⟨j, hj, rfl⟩ q
    · rcases hc with ⟨es, -⟩ | ⟨-, k, hk, e, -⟩
      · exact absurd es q1
      · exact absurd ⟨k, hk, e⟩ q2
  · rcases hn with q | ⟨q1, q2⟩
    · exact absurd ⟨i, hi, e⟩ q
    · rcases hd with ⟨es, -⟩ | ⟨-, k, hk, e, -⟩
      · exact absurd es q1
      · exact absurd ⟨k, hk, e⟩ q2
  · exact ⟨rfl, rho, h1, h2, h3⟩
theorem get_cd {F : CF} {u : CS} {t : DS} {rho : Nat → Nat} (h : Rl u t rho) (hc : cOk F u) (hk : dOk t) {r s k : Int32} {j a i q : Nat} (g : cgGet u r s k j a i q) : ∃ o, dgGet t r s k j a o q ∧ dRe t o ∧ rho o = i := by
  obtain ⟨g1, g2, g3, g4, g5, g6, g7, g8⟩ := g
  obtain ⟨o, ho, k2, kv, hd, rfl⟩ := objc h hc hk g3 g5 g6
  exact ⟨o, ⟨g1, g2, g3, g4, k2, ho, kv, by rw [← (h.2.2.2.2.2.1 o hd).2.1]; exact g7, g8⟩, hd, rfl⟩
theorem get_dc {u : CS} {t : DS} {rho : Nat → Nat} (h : Rl u t rho) (hk : dOk t) {r s k : Int32} {j a o q : Nat} (g : dgGet t r s k j a o q) : cgGet u r s k j a (rho o) q ∧ dRe t o := by
  obtain ⟨g1, g2, g3, g4, g5, g6, g7, g8, g9⟩ := g
  obtain ⟨hd, hr, hlt, hs⟩ := objd h hk g3 g5 g6 g7
  exact ⟨⟨g1, g2, g3, g4, hlt, hr, by rw [hs]; exact g8, g9⟩, hd⟩
theorem get_eq {t : DS} (hk : dOk t) {r s k : Int32} {j a o q j' a' o' q' : Nat} (g : dgGet t r s k j a o q) (g' : dgGet t r s k j' a' o' q') : j = j' ∧ a = a' ∧ o = o' ∧ q = q' := by
  obtain ⟨g1, g2, g3, g4, g5, g6, g7, g8, g9⟩ := g
  obtain ⟨f1, f2, f3, f4, f5, f6, f7, f8, f9⟩ := g'
  have hm := hk.2.1
  have e1 := r_inj (by omega) (by omega) (g2.symm.trans f2)
  have e2 := r_inj (by omega) (by omega) (g4.symm.trans f4)
  subst e2
  have e3 := nI_inj (by omega) (by omega) (g7.symm.trans f7)
  subst e3
  have h20 := hk.2.2.1 o g6
  have e4 := r_inj (by omega) (by omega) (g9.symm.trans f9)
  exact ⟨e1, rfl, rfl, e4⟩
theorem op_get {F : CF} {u u' : CS} {t t' : DS} {r s k x y : Int32} (h : Iv F u t) (hc : cpGet u r s k x u') (hd : dpGet t r s k y t') : x = y ∧ Iv F u' t' := by
  obtain ⟨rho, h1, h2, h3⟩ := h
  rcases hc with ⟨j, a, i, q, g, rfl, rfl⟩ | ⟨hn, rfl, rfl⟩ <;> rcases hd with ⟨j', a', o', q', g', rfl, rfl⟩ | ⟨hn2, rfl, rfl⟩
  · obtain ⟨o, g2, hd, rfl⟩ := get_cd h1 h2 h3 g
    obtain ⟨rfl, rfl, rfl, rfl⟩ := get_eq h3 g2 g'
    have hq := g2.2.2.2.2.2.2.2.1
    have := h1.reg h3 g2.1 (gV'.val h3 hd hq)
    rw [← (h1.2.2.2.2.2.1 o hd).2.2 q hq] at this
    exact ⟨rfl, rho, this.1, h2, this.2⟩
  · obtain ⟨o, g2, -⟩ := get_cd h1 h2 h3 g
    exact absurd ⟨j, a, o, q, g2⟩ hn2
  · exact absurd ⟨j', a', rho o', q', (get_dc h1 h3 g').1⟩ hn
  · exact ⟨rfl, rho, h1, h2, h3⟩
theorem cOk.uz {F : CF} {u : CS} (h : cOk F u) {i z : Nat} {rc : Nat → Bool} {vs : Nat → Nat → Int64} (hz : z ≤ 20) : cOk F (uZ u (va_up (sZ u) i z) rc vs) := by
  obtain ⟨a1, a2, a3, a4, a5, a6⟩ := h
  refine ⟨a1, a2, a3, a4, a5, fun x hx => ?_⟩
  show va_up (sZ u) i z x ≤ 20
  by_cases e : x = i
  · rw [e, va_up_self]; exact hz
  · rw [va_up_ne _ _ e]; exact a6 x hx
theorem op_set {F : CF} {u u' : CS} {t t' : DS} {r k s x y : Int32} (h : Iv F u t) (hc : cpSet u r k s x u') (hd : dpSet t r k s y t') : x = y ∧ Iv F u' t' := by
  obtain ⟨rho, h1, h2, h3⟩ := h
  rcases hc with ⟨j, a, i, q, g, rfl, rfl⟩ | ⟨hn, rfl, rfl⟩ <;> rcases hd with ⟨j', a', o', q', g', rfl, rfl⟩ | ⟨hn2, rfl, rfl⟩
  · obtain ⟨o, g2, hd, rfl⟩ := get_cd h1 h2 h3 g
    obtain ⟨rfl, rfl, rfl, rfl⟩ := get_eq h3 g2 g'
    have hq := g2.2.2.2.2.2.2.2.1
    have hj := g2.1
    have h20 := h3.2.2.1 o hd.lt
    have key := Rl.obj (u' := uZ u (sZ u) (rC u) (va_up (vS u) (rho o) (vp_updL (vS u (rho o)) q (rG u j)))) (t' := wV t (upd (gK t) (pL o q) (gK t j)) (upd (gV t) (pL o q) (gV t j))) h1 h3 hd rfl rfl rfl (fun _ _ => rfl) h20
      (fun p hp => ⟨pk_un (hp q (by omega)), pk_un (hp q (by omega))⟩)
      (fun z hz => by
        show gV' t (upd (gK t) (pL o q) (gK t j) (pL o z)) (upd (gV t) (pL o q) (gV t j) (pL o z))
        have hz : z < gS t o := hz
        by_cases e : z = q
        · subst e; rw [pk_us, pk_us]; exact gV'.reg h3 (by omega)
        · have ne : pL o z ≠ pL o q := fun e2 => e (pL_inj (by omega) (by omega) e2).2
          rw [pk_un ne, pk_un ne]; exact gV'.val h3 hd hz)
      rfl rfl rfl rfl rfl rfl (fun z hz => ⟨rfl, va_up_ne _ _ hz⟩) (h1.2.2.2.2.2.1 o hd).2.1
      (fun z hz => by
        show va_up (vS u) (rho o) (vp_updL (vS u (rho o)) q (rG u j)) (rho o) z = eV rho (upd (gK t) (pL o q) (gK t j) (pL o z)) (upd (gV t) (pL o q) (gV t j) (pL o z))
        have hz : z < gS t o := hz
        rw [va_up_self]
        by_cases e : z = q
        · subst e; rw [pk_uLs, pk_us, pk_us]; exact h1.2.2.2.1 j hj
        · have ne : pL o z ≠ pL o q := fun e2 => e (pL_inj (by omega) (by omega) e2).2
          rw [pk_uLn e, pk_un ne, pk_un ne]; exact (h1.2.2.2.2.2.1 o hd).2.2 z hz)
    exact ⟨rfl, rho, key.1, h2, key.2⟩
  · obtain ⟨o, g2, -⟩ := get_cd h1 h2 h3 g
    exact absurd ⟨j, a, o, q, g2⟩ hn2
  · exact absurd ⟨j', a', rho o', q', (get_dc h1 h3 g').1⟩ hn
  · exact ⟨rfl, rho, h1, h2, h3⟩
theorem upd_sw {f : Nat → Int32} {a b : Nat} (h : a ≠ b) (x y : Int32) : upd (upd f a x) b y = upd (upd f b y) a x := by
  funext p
  by_cases e1 : p = a
  · subst e1; rw [pk_un h, pk_us, pk_us]
  · by_cases e2 : p = b
    · subst e2; rw [pk_us, pk_un e1, pk_us]
    · rw [pk_un e2, pk_un e1, pk_un e1, pk_un e2]
theorem op_push {F : CF} {u u' : CS} {t t' : DS} {r x y : Int32} (h : Iv F u t) (hc : cpPush u r x u') (hd : dpPush t r y t') : x = y ∧ Iv F u' t' := by
  obtain ⟨rho, h1, h2, h3⟩ := h
  have est := h1.1
  rcases hc with ⟨j, hj, rfl, hs, rfl, rfl⟩ | ⟨hn, rfl, rfl⟩ <;> rcases hd with ⟨i, hi, e, hs2, rfl, rfl⟩ | ⟨hn2, rfl, rfl⟩
  · have e := r_inj (by omega) (by omega) e
    subst e
    have p1 := h1.push h3 hs2 (gV'.reg h3 (p := j) (by omega))
    rw [← h1.2.2.2.1 j hj] at p1
    have p2 := p1.1.reg p1.2 hj (a := 0) (b := 0) (Or.inl ⟨rfl, rfl⟩)
    rw [eV_0] at p2
    rw [est]
    refine ⟨rfl, rho, p2.1, ?_, p2.2⟩
    obtain ⟨a1, a2, a3, a4, a5, a6⟩ := h2
    exact ⟨a1, a2, a3, a4, by show gT t + 1 ≤ 50; omega, a6⟩
  · exact absurd ⟨⟨j, hj, rfl⟩, by omega⟩ hn2
  · exact absurd ⟨⟨i, hi, e⟩, by omega⟩ hn
  · exact ⟨rfl, rho, h1, h2, h3⟩
theorem op_pop {F : CF} {u u' : CS} {t t' : DS} {r x y : Int32} (h : Iv F u t) (hc : cpPop u r x u') (hd : dpPop t r y t') : x = y ∧ Iv F u' t' := by
  obtain ⟨rho, h1, h2, h3⟩ := h
  have est := h1.1
  rcases hc with ⟨j, n, hj, rfl, hs, rfl, rfl⟩ | ⟨hn, rfl, rfl⟩ <;> rcases hd with ⟨i, n2, hi, e, hs2, rfl, rfl⟩ | ⟨hn2, rfl, rfl⟩
  · have e := r_inj (by omega) (by omega) e
    subst e
    have en : n = n2 := by omega
    subst en
    have p1 := h1.reg h3 hj (gV'.reg h3 (p := 10 + n) (by omega))
    rw [← h1.2.2.2.2.1 n (by omega)] at p1
    have p2 := p1.1.pop p1.2 (n := n) (by show n < gT t; omega)
    refine ⟨rfl, rho, p2.1, ?_, p2.2⟩
    obtain ⟨a1, a2, a3, a4, a5, a6⟩ := h2
    exact ⟨a1, a2, a3, a4, by show n ≤ 50; omega, a6⟩
  · exact absurd ⟨⟨j, hj, rfl⟩, by omega⟩ hn2
  · exact absurd ⟨⟨i, hi, e⟩, by omega⟩ hn
  · exact ⟨rfl, rho, h1, h2, h3⟩
theorem op_look {F : CF} {u u' : CS} {t t' : DS} {r x y : Int32} (h : Iv F u t) (hc : cpLook u r x u') (hd : dpLook t r y t') : x = y ∧ Iv F u' t' := by
  obtain ⟨rho, h1, h2, h3⟩ := h
  obtain ⟨rfl, hc⟩ := hc
  obtain ⟨rfl, hd⟩ := hd
  refine ⟨?_, rho, h1, h2, h3⟩
  have hm := h3.2.1
  rcases hc with ⟨hn, rfl⟩ | ⟨j, hj, rfl, hc⟩ <;> rcases hd with ⟨hn2, rfl⟩ | ⟨i, hi, e, hd⟩
  · rfl
  · exact absurd ⟨i, hi, e⟩ hn
  · exact absurd ⟨j, hj, rfl⟩ hn2
  · have e := r_inj (by omega) (by omega) e
    subst e
    have hr := h1.2.2.2.1 j hj
    rcases hc with ⟨i, hi2, he, rfl⟩ | ⟨hno, hc⟩
    · obtain ⟨o, ho, k2, kv, hdr, rfl⟩ := objc h1 h2 h3 hj hi2 he
      rcases hd with ⟨hd, -⟩ | ⟨hd, -⟩ | ⟨o', -, ho', hv', rfl⟩
      · rw [k2] at hd; exact absurd hd (by decide)
      · rw [k2] at hd; exact absurd hd (by decide)
      · rw [kv] at hv'
        rw [← nI_inj (by omega) (by omega) hv', (h1.2.2.2.2.2.1 o hdr).2.1]
    · rcases hd with ⟨hd, rfl⟩ | ⟨hd, rfl⟩ | ⟨o', hk2, ho', hv', rfl⟩
      · rw [hd, eV_0] at hr
        rcases hc with ⟨-, rfl⟩ | ⟨hc, -⟩
        · rfl
        · exact absurd hr hc
      · rw [hd, eV_1] at hr
        rcases hc with ⟨hc, -⟩ | ⟨-, rfl⟩
        · rw [hc] at hr; exact absurd hr.symm (num_nO _)
        · rfl
      · obtain ⟨-, q1, q2, -⟩ := objd h1 h3 hj hk2 ho' hv'
        exact absurd q1 (hno _ q2)
theorem num_lt (v : Int32) : v.toInt64 < nO := by
  rw [Int64.lt_iff_toInt_lt, i64_toInt, nO_toInt]
  have := i32_lo v
  omega
theorem oB_ge {i : Nat} (hi : i < 2147483648) : ¬ oB i < nO := by
  rw [Int64.lt_iff_toInt_lt, oB_toInt hi, nO_toInt]
  omega
theorem nO_ge : ¬ nO < nO := by
  rw [Int64.lt_iff_toInt_lt]
  omega
theorem num_back (v : Int32) : v.toInt64.toInt32 = v := by simp
theorem op_numIn {F : CF} {u u' : CS} {t t' : DS} {r x y : Int32} (h : Iv F u t) (hc : cpNumIn u r x u') (hd : dpNumIn t r y t') : x = y ∧ Iv F u' t' := by
  obtain ⟨rho, h1, h2, h3⟩ := h
  obtain ⟨rfl, hc⟩ := hc
  obtain ⟨rfl, hd⟩ := hd
  refine ⟨?_, rho, h1, h2, h3⟩
  have hm := h3.2.1
  have key : ∀ j, j < 10 → (rG u' j < nO ↔ gK t' j = 1) := by
    intro j hj
    rw [h1.2.2.2.1 j hj]
    rcases gV'.reg h3 (p := j) (by omega) with ⟨e, -⟩ | e | ⟨e, o, ho, hb, hdr⟩
    · rw [e, eV_0]; exact ⟨fun q => absurd q nO_ge, fun q => absurd q (by decide)⟩
    · rw [e, eV_1]; exact ⟨fun _ => rfl, fun _ => num_lt _⟩
    · rw [e, hb, eV_2 _ (by omega)]; exact ⟨fun q => absurd q (oB_ge (h1.lt h2 hdr)), fun q => absurd q (by decide)⟩
  rcases hc with ⟨j, hj, rfl, hlt, rfl⟩ | ⟨hn, rfl⟩ <;> rcases hd with ⟨i, hi, e, hk, rfl⟩ | ⟨hn2, rfl⟩
  · have e := r_inj (by omega) (by omega) e
    subst e
    rw [h1.2.2.2.1 j hj, hk, eV_1, num_back]
  · exact absurd ⟨j, hj, rfl, (key j hj).mp hlt⟩ hn2
  · exact absurd ⟨i, hi, e, (key i hi).mpr hk⟩ hn
  · rfl
theorem op_same {F : CF} {u u' : CS} {t t' : DS} {r s x y : Int32} (h : Iv F u t) (hc : cpSame u r s x u') (hd : dpSame t r s y t') : x = y ∧ Iv F u' t' := by
  obtain ⟨rho, h1, h2, h3⟩ := h
  obtain ⟨rfl, hc⟩ := hc
  obtain ⟨rfl, hd⟩ := hd
  refine ⟨?_, rho, h1, h2, h3⟩
  rcases hc with ⟨j, k, hj, rfl, hk, rfl, hc⟩ | ⟨hn, rfl⟩ <;> rcases hd with ⟨j2, k2, hj2, e, hk2, e2, hd⟩ | ⟨hn2, rfl⟩
  · have e := r_inj (by omega) (by omega) e
    subst e
    have e2 := r_inj (by omega) (by omega) e2
    subst e2
    have key : rG u' j = rG u' k ↔ (gK t' j = gK t' k ∧ gV t' j = gV t' k) := by
      rw [h1.2.2.2.1 j hj, h1.2.2.2.1 k hk]
      exact ⟨eV_same h1 h2 h3 (gV'.reg h3 (by omega)) (gV'.reg h3 (by omega)), fun q => by rw [q.1, q.2]⟩
    rcases hc with ⟨hc, rfl⟩ | ⟨hc, rfl⟩ <;> rcases hd with ⟨hd, hd2, rfl⟩ | ⟨hd, rfl⟩
    · rfl
    · exact absurd (key.mp hc) hd
    · exact absurd (key.mpr ⟨hd, hd2⟩) hc
    · rfl
  · exact absurd ⟨⟨j, hj, rfl⟩, ⟨k, hk, rfl⟩⟩ hn2
  · exact absurd ⟨⟨j2, hj2, e⟩, ⟨k2, hk2, e2⟩⟩ hn
  · rfl
theorem Rl.sm {u v : CS} {t : DS} {rho : Nat → Nat} (hs : Sm u v) (h : Rl u t rho) : Rl v t rho := by
  obtain ⟨a1, a2, a3, a4, a5, a6, a7, a8, a9, a10⟩ := hs
  unfold Rl
  rw [a1, a2, a3, a4, a5, a6, a9, a10]
  exact h
theorem cOk.sm {F : CF} {u v : CS} (hs : Sm u v) (h : cOk F u) : cOk F v := by
  obtain ⟨a1, a2, a3, a4, a5, a6, a7, a8, a9, a10⟩ := hs
  unfold cOk
  rw [a3, a6, a9]
  exact h
theorem Wd.sum {F : CF} {u v : CS} {t : DS} {rho : Nat → Nat} {R : Nat → Bool} (h : Rl u t rho) (hc : cOk F u) (hk : dOk t) (hw : Wd u v) (hR : DW t R) : sm R (fun o => 2 + gS t o) (gM t) = rL v ∧ sm R (fun _ => 1) (gM t) = rO v := by
  obtain ⟨-, w1, w2, w3⟩ := hw
  rw [w1, w2]
  exact h.sums hc hk w3 hR
theorem op_count {F : CF} {u u' : CS} {t t' : DS} {q x y : Int32} (h : Iv F u t) (hc : cpCount u q x u') (hd : dpCount t q y t') : x = y ∧ Iv F u' t' := by
  obtain ⟨rho, h1, h2, h3⟩ := h
  obtain ⟨R, hR, rfl, hd⟩ := hd
  rcases hc with ⟨rfl, hw, rfl⟩ | ⟨rfl, hw, rfl⟩ | ⟨rfl, hc⟩
  · refine ⟨?_, rho, h1.sm hw.1, h2.sm hw.1, h3⟩
    rcases hd with ⟨-, rfl⟩ | ⟨e, -⟩ | ⟨e, -⟩ | ⟨e, -⟩ | ⟨e, -⟩ | ⟨e, -⟩
    · rw [(hw.sum h1 h2 h3 hR).1]
    · exact absurd e (by decide)
    · exact absurd e (by decide)
    · exact absurd e (by decide)
    · exact absurd e (by decide)
    · exact absurd rfl e
  · refine ⟨?_, rho, h1.sm hw.1, h2.sm hw.1, h3⟩
    rcases hd with ⟨e, -⟩ | ⟨-, rfl⟩ | ⟨e, -⟩ | ⟨e, -⟩ | ⟨e, -⟩ | ⟨-, e, -⟩
    · exact absurd e (by decide)
    · rw [(hw.sum h1 h2 h3 hR).2]
    · exact absurd e (by decide)
    · exact absurd e (by decide)
    · exact absurd e (by decide)
    · exact absurd rfl e
  · refine ⟨?_, rho, h1, h2, h3⟩
    rcases hc with ⟨rfl, rfl⟩ | ⟨rfl, rfl⟩ | ⟨rfl, rfl⟩ | ⟨n0, n1, n2, n3, n4, rfl⟩
    · rcases hd with ⟨e, -⟩ | ⟨e, -⟩ | ⟨-, rfl⟩ | ⟨e, -⟩ | ⟨e, -⟩ | ⟨-, -, e, -⟩
      · exact absurd e (by decide)
      · exact absurd e (by decide)
      · rw [h1.1]
      · exact absurd e (by decide)
      · exact absurd e (by decide)
      · exact absurd rfl e
    · rcases hd with ⟨e, -⟩ | ⟨e, -⟩ | ⟨e, -⟩ | ⟨-, rfl⟩ | ⟨e, -⟩ | ⟨-, -, -, e, -⟩
      · exact absurd e (by decide)
      · exact absurd e (by decide)
      · exact absurd e (by decide)
      · rw [h1.2.1]
      · exact absurd e (by decide)
      · exact absurd rfl e
    · rcases hd with ⟨e, -⟩ | ⟨e, -⟩ | ⟨e, -⟩ | ⟨e, -⟩ | ⟨-, rfl⟩ | ⟨-, -, -, -, e, -⟩
      · exact absurd e (by decide)
      · exact absurd e (by decide)
      · exact absurd e (by decide)
      · exact absurd e (by decide)
      · rw [h1.2.2.1]
      · exact absurd rfl e
    · rcases hd with ⟨e, -⟩ | ⟨e, -⟩ | ⟨e, -⟩ | ⟨e, -⟩ | ⟨e, -⟩ | ⟨-, -, -, -, -, rfl⟩
      · exact absurd e n0
      · exact absurd e n1
      · exact absurd e n2
      · exact absurd e n3
      · exact absurd e n4
      · rfl
theorem op_shr {F : CF} {u u' : CS} {t t' : DS} {r x y : Int32} (h : Iv F u t) (hc : cpShr u r x u') (hd : dpShr t r y t') : x = y ∧ Iv F u' t' := by
  obtain ⟨rho, h1, h2, h3⟩ := h
  have hm := h3.2.1
  rcases hc with ⟨j, i, n, ⟨g1, g2, g3, g4, g5⟩, rfl, rfl⟩ | ⟨hn, rfl, rfl⟩ <;> rcases hd with ⟨j', o', n', ⟨f1, f2, f3, f4, f5, f6⟩, rfl, rfl⟩ | ⟨hn2, rfl, rfl⟩
  · subst g2
    have e := r_inj (by omega) (by omega) f2
    subst e
    obtain ⟨o, ho, k2, kv, hdr, rfl⟩ := objc h1 h2 h3 g1 g3 g4
    have e := nI_inj (by omega) (by omega) (kv.symm.trans f5)
    subst e
    have hs := (h1.2.2.2.2.2.1 o hdr).2.1
    have en : n = n' := by omega
    subst en
    have h20 := h3.2.2.1 o ho
    have key := Rl.obj (u' := uZ u (va_up (sZ u) (rho o) n) (va_up (rC u) (rho o) (rC u (rho o))) (vS u)) (t' := wV (wS t (va_up (gS t) o n)) (upd (gK t) (pL o n) 0) (upd (gV t) (pL o n) 0)) h1 h3 hdr rfl rfl rfl (fun z hz => va_up_ne _ _ hz)
      (by show va_up (gS t) o n o ≤ 20; rw [va_up_self]; omega)
      (fun p hp => ⟨pk_un (hp n (by omega)), pk_un (hp n (by omega))⟩)
      (fun z hz => by
        have hz : z < va_up (gS t) o n o := hz
        rw [va_up_self] at hz
        show gV' t (upd (gK t) (pL o n) 0 (pL o z)) (upd (gV t) (pL o n) 0 (pL o z))
        have ne : pL o z ≠ pL o n := fun e2 => by have := (pL_inj (by omega) (by omega) e2).2; omega
        rw [pk_un ne, pk_un ne]; exact gV'.val h3 hdr (by omega))
      rfl rfl rfl rfl rfl rfl (fun z hz => ⟨va_up_ne _ _ hz, rfl⟩)
      (by show va_up (sZ u) (rho o) n (rho o) = va_up (gS t) o n o; rw [va_up_self, va_up_self])
      (fun z hz => by
        have hz : z < va_up (gS t) o n o := hz
        rw [va_up_self] at hz
        show vS u (rho o) z = eV rho (upd (gK t) (pL o n) 0 (pL o z)) (upd (gV t) (pL o n) 0 (pL o z))
        have ne : pL o z ≠ pL o n := fun e2 => by have := (pL_inj (by omega) (by omega) e2).2; omega
        rw [pk_un ne, pk_un ne]; exact (h1.2.2.2.2.2.1 o hdr).2.2 z (by omega))
    exact ⟨rfl, rho, key.1, h2.uz (by omega), key.2⟩
  · obtain ⟨o, ho, k2, kv, hdr, rfl⟩ := objc h1 h2 h3 g1 g3 g4
    exact absurd ⟨j, o, n, g1, g2, k2, ho, kv, by rw [← (h1.2.2.2.2.2.1 o hdr).2.1]; exact g5⟩ hn2
  · obtain ⟨hdr, q1, q2, q3⟩ := objd h1 h3 f1 f3 f4 f5
    exact absurd ⟨j', rho o', n', f1, f2, q2, q1, by rw [q3]; exact f6⟩ hn
  · exact ⟨rfl, rho, h1, h2, h3⟩
theorem op_grow {F : CF} {u u' : CS} {t t' : DS} {r s x y : Int32} (h : Iv F u t) (hc : cpGrow F u r s x u') (hd : dpGrow (kC F) t r s y t') : x = y ∧ Iv F u' t' := by
  obtain ⟨rho, h1, h2, h3⟩ := h
  have hm := h3.2.1
  rcases hc with ⟨j, i, a, v, ⟨g1, g2, g3, g4, g5, g6, g7⟩, hw, hc⟩ | ⟨hn, rfl, rfl⟩ <;> rcases hd with ⟨j', o', a', R, ⟨f1, f2, f3, f4, f5, f6, f7, f8⟩, hR, hd⟩ | ⟨hn2, rfl, rfl⟩
  · subst g2
    subst g6
    have e := r_inj (by omega) (by omega) f2
    subst e
    have e := r_inj (by omega) (by omega) f7
    subst e
    obtain ⟨o, ho, k2, kv, hdr, rfl⟩ := objc h1 h2 h3 g1 g3 g4
    have e := nI_inj (by omega) (by omega) (kv.symm.trans f5)
    subst e
    have hs := (h1.2.2.2.2.2.1 o hdr).2.1
    have hsum := (hw.sum h1 h2 h3 hR).1
    rw [hsum] at hd
    rcases hc with ⟨hc, rfl, rc, rfl⟩ | ⟨hc, rfl, rfl⟩ <;> rcases hd with ⟨hd, rfl, rfl⟩ | ⟨hd, rfl, rfl⟩
    · have hv : Rl v t rho := h1.sm hw.1
      obtain ⟨s1, s2, s3, s4, s5, s6, s7, s8, s9, s10⟩ := hw.1
      have key := Rl.obj (u' := uZ v (va_up (sZ u) (rho o) (sZ u (rho o) + 1)) rc (va_up (vS u) (rho o) (vp_updL (vS u (rho o)) (sZ u (rho o)) (rG u a)))) (t' := wS (wV (wR t R) (upd (gK t) (pL o (gS t o)) (gK t a)) (upd (gV t) (pL o (gS t o)) (gV t a))) (va_up (gS t) o (gS t o + 1))) hv h3 hdr rfl rfl rfl (fun z hz => va_up_ne _ _ hz)
        (by show va_up (gS t) o (gS t o + 1) o ≤ 20; rw [va_up_self]; omega)
        (fun p hp => ⟨pk_un (hp _ (by omega)), pk_un (hp _ (by omega))⟩)
        (fun z hz => by
          have hz : z < va_up (gS t) o (gS t o + 1) o := hz
          rw [va_up_self] at hz
          show gV' t (upd (gK t) (pL o (gS t o)) (gK t a) (pL o z)) (upd (gV t) (pL o (gS t o)) (gV t a) (pL o z))
          by_cases e : z = gS t o
          · subst e; rw [pk_us, pk_us]; exact gV'.reg h3 (by omega)
          · have ne : pL o z ≠ pL o (gS t o) := fun e2 => e (pL_inj (by omega) (by omega) e2).2
            rw [pk_un ne, pk_un ne]; exact gV'.val h3 hdr (by omega))
        rfl rfl rfl rfl rfl rfl
        (fun z hz => ⟨by show va_up (sZ u) (rho o) _ z = sZ v z; rw [va_up_ne _ _ hz, s9], by show va_up (vS u) (rho o) _ z = vS v z; rw [va_up_ne _ _ hz, s10]⟩)
        (by show va_up (sZ u) (rho o) (sZ u (rho o) + 1) (rho o) = va_up (gS t) o (gS t o + 1) o; rw [va_up_self, va_up_self, hs])
        (fun z hz => by
          have hz : z < va_up (gS t) o (gS t o + 1) o := hz
          rw [va_up_self] at hz
          show va_up (vS u) (rho o) (vp_updL (vS u (rho o)) (sZ u (rho o)) (rG u a)) (rho o) z = eV rho (upd (gK t) (pL o (gS t o)) (gK t a) (pL o z)) (upd (gV t) (pL o (gS t o)) (gV t a) (pL o z))
          rw [va_up_self, hs]
          by_cases e : z = gS t o
          · subst e; rw [pk_uLs, pk_us, pk_us]; exact h1.2.2.2.1 a g5
          · have ne : pL o z ≠ pL o (gS t o) := fun e2 => e (pL_inj (by omega) (by omega) e2).2
            rw [pk_uLn e, pk_un ne, pk_un ne]; exact (h1.2.2.2.2.2.1 o hdr).2.2 z (by omega))
      refine ⟨by rw [hs], rho, key.1, ?_, key.2⟩
      have h2v := h2.sm hw.1
      have := h2v.uz (i := rho o) (z := sZ u (rho o) + 1) (rc := rc) (vs := va_up (vS u) (rho o) (vp_updL (vS u (rho o)) (sZ u (rho o)) (rG u a))) (by omega)
      rw [s9] at this
      exact this
    · omega
    · omega
    · have hv : Rl v t rho := h1.sm hw.1
      refine ⟨rfl, rho, ?_, (show cOk F v from h2.sm hw.1), h3⟩
      obtain ⟨b1, b2, b3, b4⟩ := hv
      exact ⟨b1, b2, by show fU u + 1 = gF t + 1; rw [h1.2.2.1], b4⟩
  · obtain ⟨o, ho, k2, kv, hdr, rfl⟩ := objc h1 h2 h3 g1 g3 g4
    exact absurd ⟨j, o, a, g1, g2, k2, ho, kv, g5, g6, by rw [← (h1.2.2.2.2.2.1 o hdr).2.1]; exact g7⟩ hn2
  · obtain ⟨hdr, q1, q2, q3⟩ := objd h1 h3 f1 f3 f4 f5
    exact absurd ⟨j', rho o', a', f1, f2, q2, q1, f6, f7, by rw [q3]; exact f8⟩ hn
  · exact ⟨rfl, rho, h1, h2, h3⟩
theorem fI_in {f : Nat → Int32} {b k p : Nat} {x : Int32} (h1 : b ≤ p) (h2 : p < b + k) : fI f b k x p = x := by unfold fI; rw [if_pos ⟨h1, h2⟩]
theorem fI_out {f : Nat → Int32} {b k p : Nat} {x : Int32} (h : ¬ (b ≤ p ∧ p < b + k)) : fI f b k x p = f p := by unfold fI; rw [if_neg h]
theorem op_make {F : CF} {u u' : CS} {t t' : DS} {r n s x y : Int32} (hM : gM t < 512) (h : Iv F u t) (hc : cpMake F u r n s x u') (hd : dpMake (kC F) t r n s y t') : x = y ∧ Iv F u' t' := by
  obtain ⟨rho, h1, h2, h3⟩ := h
  have hm := h3.2.1
  rcases hc with ⟨j, k, a, v, ⟨g1, g2, g3, g4, g5, g6⟩, hw, hc⟩ | ⟨hn, rfl, rfl⟩ <;> rcases hd with ⟨j', k', a', R, ⟨f1, f2, f3, f4, f5, f6⟩, hR, hd⟩ | ⟨hn2, rfl, rfl⟩
  · subst g2
    subst g4
    subst g6
    have e := r_inj (by omega) (by omega) f2
    subst e
    have e := r_inj (by omega) (by omega) f4
    subst e
    have e := r_inj (by omega) (by omega) f6
    subst e
    have hsum := (hw.sum h1 h2 h3 hR).1
    rw [hsum] at hd
    rcases hc with ⟨hc, rfl, i, v2, hp, rfl⟩ | ⟨hc, rfl, rfl⟩ <;> rcases hd with ⟨hd, rfl, rfl⟩ | ⟨hd, rfl, rfl⟩
    · obtain ⟨s1, s2, s3, s4, s5, s6, s7, s8, s9, s10⟩ := hw.1
      obtain ⟨p1, p2, p3, p4, p5, p6, p7, p8, p9, p10, p11, p12, p13⟩ := hp
      rw [s6] at p2 p4 p5 p6
      have h50 := h3.1
      have hnew : ∀ o, dRe t o → rho o ≠ i := by
        intro o ho e
        have q1 := h1.to h3 ho
        rw [e] at q1
        have q2 := q1.lt
        have q3 := (hw.2.2.2 i q2).mpr q1
        rw [p4 q2] at q3
        cases q3
      have key := Rl.make (u' := uA v2 (vp_updL (rG u) j (oB i)) (sK v2) (sT v2) (mD u + 1) (fU v2)) (t' := wM (wV (wS (wR t R) (va_up (gS t) (gM t) k)) (upd (fI (gK t) (pL (gM t) 0) k (gK t a)) j 2) (upd (fI (gV t) (pL (gM t) 0) k (gV t a)) j (nI (gM t)))) (gM t + 1)) (a := gK t a) (b := gV t a) (i := i) h1 h3 g1 g3 hM (gV'.reg h3 (by omega)) hnew rfl rfl rfl (fun z hz => va_up_ne _ _ hz) (va_up_self _ _ _)
        (fun p hpr hpp => by
          show upd (fI (gK t) (pL (gM t) 0) k (gK t a)) j 2 p = gK t p ∧ upd (fI (gV t) (pL (gM t) 0) k (gV t a)) j (nI (gM t)) p = gV t p
          have ho : ¬ (pL (gM t) 0 ≤ p ∧ p < pL (gM t) 0 + k) := fun q => hpp (p - pL (gM t) 0) (by omega) (by unfold pL at q ⊢; omega)
          rw [pk_un hpr, pk_un hpr, fI_out ho, fI_out ho]
          exact ⟨rfl, rfl⟩)
        (fun z hz => by
          show upd (fI (gK t) (pL (gM t) 0) k (gK t a)) j 2 (pL (gM t) z) = gK t a ∧ upd (fI (gV t) (pL (gM t) 0) k (gV t a)) j (nI (gM t)) (pL (gM t) z) = gV t a
          have ne : pL (gM t) z ≠ j := fun e => by have := pL_ge (gM t) z; omega
          have q1 : pL (gM t) 0 ≤ pL (gM t) z := by unfold pL; omega
          have q2 : pL (gM t) z < pL (gM t) 0 + k := by unfold pL; omega
          rw [pk_un ne, pk_un ne, fI_in q1 q2, fI_in q1 q2]
          exact ⟨rfl, rfl⟩)
        ⟨pk_us, pk_us⟩
        (by show sT v2 = sT u; rw [p11, s3]) rfl (by show fU v2 = fU u; rw [p13, s5]) (fun z hz => pk_uLn hz) pk_uLs (by show sK v2 = sK u; rw [p10, s2]) p2 p1
        (fun z hz hzi => by
          have q := p6 z hz hzi
          rw [s9, s10] at q
          exact q) p7
        (fun z hz => by
          show vS v2 i z = eV rho (gK t a) (gV t a)
          rw [p8 z hz, h1.2.2.2.1 a g5])
      refine ⟨rfl, va_up rho (gM t) i, key.1, ?_, key.2⟩
      obtain ⟨a1, a2, a3, a4, a5, a6⟩ := h2
      refine ⟨a1, a2, a3, p3, by show sT v2 ≤ 50; rw [p11, s3]; exact a5, fun z hz => ?_⟩
      show sZ v2 z ≤ 20
      have hz : z < nU v2 := hz
      by_cases e : z = i
      · rw [e, p7]; exact g3
      · have q := p5 z hz e
        rw [(p6 z q e).1, s9]; exact a6 z q
    · omega
    · omega
    · have hv : Rl v t rho := h1.sm hw.1
      refine ⟨rfl, rho, ?_, (show cOk F v from h2.sm hw.1), h3⟩
      obtain ⟨b1, b2, b3, b4⟩ := hv
      exact ⟨b1, b2, by show fU u + 1 = gF t + 1; rw [h1.2.2.1], b4⟩
  · exact absurd ⟨j, k, a, g1, g2, g3, g4, g5, g6⟩ hn2
  · exact absurd ⟨j', k', a', f1, f2, f3, f4, f5, f6⟩ hn
  · exact ⟨rfl, rho, h1, h2, h3⟩
