/-! a new heap, a new reference -/
def capC (c : Int32) : Nat := if 20 ≤ c.toInt ∧ c.toInt ≤ 3000 then c.toInt.toNat else 300
theorem capC_ok (c : Int32) : 20 ≤ capC c ∧ capC c ≤ 3000 := by
  unfold capC
  by_cases h : 20 ≤ c.toInt ∧ c.toInt ≤ 3000
  · rw [if_pos h]; omega
  · rw [if_neg h]; omega
theorem nI_int {n : Nat} (h : n < 2147483648) : (nI n).toInt = n := nI_toInt (by omega)
theorem capC_lo {c : Int32} (h : c < nI 20) : capC c = 300 := by
  unfold capC
  rw [Int32.lt_iff_toInt_lt, nI_int (by omega)] at h
  rw [if_neg (by omega)]
theorem capC_hi {c : Int32} (h : nI 3000 < c) : capC c = 300 := by
  unfold capC
  rw [Int32.lt_iff_toInt_lt, nI_int (by omega)] at h
  rw [if_neg (by omega)]
theorem capC_in {c : Int32} (h1 : ¬ c < nI 20) (h2 : ¬ nI 3000 < c) : ∃ z : Nat, c = nI z ∧ z = capC c := by
  rw [Int32.lt_iff_toInt_lt, nI_int (by omega)] at h1 h2
  refine ⟨c.toInt.toNat, ?_, ?_⟩
  · apply Int32.toInt_inj.mp
    rw [nI_int (by omega)]
    omega
  · unfold capC
    rw [if_pos (by omega)]
theorem rW_zero {th : Nat → Nat} : rW 0 th = fun _ => none := by
  funext i
  exact rW_ge (Nat.not_lt_zero i)
def pNew (F : CF) (u : CS) (h : Nat) (J T : ClassId) (C : Nat) : Prop := kH F = h ∧ kJ F = J ∧ kT F = T ∧ kC F = C ∧ cOk F u ∧ (∀ j, j < 10 → rG u j = nO) ∧ sT u = 0 ∧ mD u = 0 ∧ fU u = 0 ∧ nU u = 0
theorem pNew.of {h r k q a b C : Nat} {J T : ClassId} {g : Nat → Int64} (hC : 20 ≤ C ∧ C ≤ 3000) (hg : ∀ k, k < 10 → g k = 4294967296) : pNew ((((h, r), k), (q, a)), (((b, J), T), (C / 2, C))) ((((g, fun _ => 0), (0, 0)), ((0, 0), fun _ => 0)), (((fun _ => 0, fun _ => 0), (fun _ => false, fun _ _ => 0)), ((0, 0), fun _ => none))) h J T C := by
  refine ⟨rfl, rfl, rfl, rfl, ⟨rfl, hC.1, hC.2, Nat.zero_le _, Nat.zero_le _, fun i hi => absurd hi (Nat.not_lt_zero i)⟩, fun j hj => ?_, rfl, rfl, rfl, rfl⟩
  show g j = nO
  rw [hg j hj]
  exact c64n
def dNew (G : DF) (t : DS) (h : Nat) (B I Z : ClassId) (C : Nat) : Prop := dH G = h ∧ dB G = B ∧ dI G = I ∧ dZ G = Z ∧ dC G = C ∧ (∀ p, gK t p = 0 ∧ gV t p = 0) ∧ gT t = 0 ∧ gM t = 0 ∧ gF t = 0
theorem dNew.of {h k v z r C : Nat} {B I Z : ClassId} : dNew ((((h, k), v), (z, r)), ((B, I), (Z, C))) (((fun _ => 0, fun _ => 0), (0, 0)), ((0, fun _ => 0), fun _ => false)) h B I Z C :=
  ⟨rfl, rfl, rfl, rfl, rfl, fun _ => ⟨rfl, rfl⟩, rfl, rfl, rfl⟩
theorem Iv.start {F : CF} {u : CS} {G : DF} {t : DS} {h g C : Nat} {J T B I Z : ClassId} (hc : pNew F u h J T C) (hd : dNew G t g B I Z C) : Iv F u t := by
  obtain ⟨-, -, -, -, c1, c2, c3, c4, c5, c6⟩ := hc
  obtain ⟨-, -, -, -, -, d1, d2, d3, d4⟩ := hd
  have none : ∀ o, ¬ dRe t o := fun o ho => by
    have := ho.lt
    omega
  refine ⟨fun _ => 0, ⟨by rw [c3, d2], by rw [c4, d3], by rw [c5, d4], fun r hr => ?_, fun j hj => by omega, fun o ho => absurd ho (none o), fun a b ha => absurd ha (none a)⟩, c1, by omega, by omega, fun o ho => by omega, fun p _ => Or.inl (d1 p)⟩
  rw [c2 r hr, (d1 r).1, eV_0]
theorem gm_num {t w : DS} {r v y : Int32} (h : dpNum t r v y w) : gM w ≤ gM t + 1 := by
  rcases h with ⟨j, -, -, -, rfl⟩ | ⟨-, -, rfl⟩ <;> exact Nat.le_succ _
theorem gm_copy {t w : DS} {r s y : Int32} (h : dpCopy t r s y w) : gM w ≤ gM t + 1 := by
  rcases h with ⟨j, -, -, -, ⟨-, rfl⟩ | ⟨-, k, -, -, rfl⟩⟩ | ⟨-, -, rfl⟩ <;> exact Nat.le_succ _
theorem gm_get {t w : DS} {r s k y : Int32} (h : dpGet t r s k y w) : gM w ≤ gM t + 1 := by
  rcases h with ⟨j, a, o, q, -, -, rfl⟩ | ⟨-, -, rfl⟩ <;> exact Nat.le_succ _
theorem gm_set {t w : DS} {r s k y : Int32} (h : dpSet t r s k y w) : gM w ≤ gM t + 1 := by
  rcases h with ⟨j, a, o, q, -, -, rfl⟩ | ⟨-, -, rfl⟩ <;> exact Nat.le_succ _
theorem gm_push {t w : DS} {r y : Int32} (h : dpPush t r y w) : gM w ≤ gM t + 1 := by
  rcases h with ⟨j, -, -, -, -, rfl⟩ | ⟨-, -, rfl⟩ <;> exact Nat.le_succ _
theorem gm_pop {t w : DS} {r y : Int32} (h : dpPop t r y w) : gM w ≤ gM t + 1 := by
  rcases h with ⟨j, n, -, -, -, -, rfl⟩ | ⟨-, -, rfl⟩ <;> exact Nat.le_succ _
theorem gm_look {t w : DS} {r y : Int32} (h : dpLook t r y w) : gM w ≤ gM t + 1 := by rw [h.1]; exact Nat.le_succ _
theorem gm_numIn {t w : DS} {r y : Int32} (h : dpNumIn t r y w) : gM w ≤ gM t + 1 := by rw [h.1]; exact Nat.le_succ _
theorem gm_same {t w : DS} {r s y : Int32} (h : dpSame t r s y w) : gM w ≤ gM t + 1 := by rw [h.1]; exact Nat.le_succ _
theorem gm_count {t w : DS} {q y : Int32} (h : dpCount t q y w) : gM w ≤ gM t + 1 := by
  obtain ⟨R, -, rfl, -⟩ := h
  exact Nat.le_succ _
theorem gm_shr {t w : DS} {r y : Int32} (h : dpShr t r y w) : gM w ≤ gM t + 1 := by
  rcases h with ⟨j, o, n, -, -, rfl⟩ | ⟨-, -, rfl⟩ <;> exact Nat.le_succ _
theorem gm_grow {C : Nat} {t w : DS} {r s y : Int32} (h : dpGrow C t r s y w) : gM w ≤ gM t + 1 := by
  rcases h with ⟨j, o, a, R, -, -, ⟨-, -, rfl⟩ | ⟨-, -, rfl⟩⟩ | ⟨-, -, rfl⟩ <;> exact Nat.le_succ _
theorem gm_make {C : Nat} {t w : DS} {r n s y : Int32} (h : dpMake C t r n s y w) : gM w ≤ gM t + 1 := by
  rcases h with ⟨j, k, a, R, -, -, ⟨-, -, rfl⟩ | ⟨-, -, rfl⟩⟩ | ⟨-, -, rfl⟩
  · exact Nat.le_refl _
  · exact Nat.le_succ _
  · exact Nat.le_succ _
