/-- what a boolean is on the machine -/
def bI (b : Bool) : Int32 := if b = true then 1 else 0
/-- the pool's rows: a thing and its values, row by row -/
def tl (cJ : ClassId) (th ar sz : Nat → Nat) (rc : Nat → Bool) (vs : Nat → Nat → Int64) : Nat → va_W
  | 0 => []
  | n + 1 => tl cJ th ar sz rc vs n ++ [(th n, .inr (1, [.ref (ar n), .int (nI (sz n)), .int (bI (rc n))])), (ar n, .inl (cJ, 20, .inr (.inl (vs n))))]
theorem tl_len {cJ : ClassId} {th ar sz : Nat → Nat} {rc : Nat → Bool} {vs : Nat → Nat → Int64} (n : Nat) : (tl cJ th ar sz rc vs n).length = 2 * n := by
  induction n with
  | zero => rfl
  | succ n ih => simp only [tl, List.length_append, ih, List.length_cons, List.length_nil]; omega
theorem tl_th {cJ : ClassId} {th ar sz : Nat → Nat} {rc : Nat → Bool} {vs : Nat → Nat → Int64} {n i : Nat} (h : i < n) : (tl cJ th ar sz rc vs n)[2 * i]? = some (th i, .inr (1, [.ref (ar i), .int (nI (sz i)), .int (bI (rc i))])) := by
  induction n with
  | zero => omega
  | succ n ih =>
    by_cases hi : i < n
    · simp only [tl]
      rw [List.getElem?_append_left (by rw [tl_len]; omega)]
      exact ih hi
    · have hin : i = n := by omega
      subst hin
      simp only [tl]
      rw [List.getElem?_append_right (by rw [tl_len]; omega), tl_len, Nat.sub_self]
      rfl
theorem tl_ar {cJ : ClassId} {th ar sz : Nat → Nat} {rc : Nat → Bool} {vs : Nat → Nat → Int64} {n i : Nat} (h : i < n) : (tl cJ th ar sz rc vs n)[2 * i + 1]? = some (ar i, .inl (cJ, 20, .inr (.inl (vs i)))) := by
  induction n with
  | zero => omega
  | succ n ih =>
    by_cases hi : i < n
    · simp only [tl]
      rw [List.getElem?_append_left (by rw [tl_len]; omega)]
      exact ih hi
    · have hin : i = n := by omega
      subst hin
      simp only [tl]
      rw [List.getElem?_append_right (by rw [tl_len]; omega), tl_len, show 2 * i + 1 - 2 * i = 1 by omega]
      rfl
theorem tl_congr {cJ : ClassId} {th ar sz th' ar' sz' : Nat → Nat} {rc rc' : Nat → Bool} {vs vs' : Nat → Nat → Int64} {n : Nat} (h : ∀ i, i < n → th i = th' i ∧ ar i = ar' i ∧ sz i = sz' i ∧ rc i = rc' i ∧ vs i = vs' i) : tl cJ th ar sz rc vs n = tl cJ th' ar' sz' rc' vs' n := by
  induction n with
  | zero => rfl
  | succ n ih =>
    obtain ⟨h1, h2, h3, h4, h5⟩ := h n (Nat.lt_succ_self n)
    simp only [tl]
    rw [ih (fun i hi => h i (Nat.lt_succ_of_lt hi)), h1, h2, h3, h4, h5]
theorem tl_setT {cJ : ClassId} {th ar sz : Nat → Nat} {rc : Nat → Bool} {vs : Nat → Nat → Int64} {n i : Nat} (z : Nat) (b : Bool) (h : i < n) : (tl cJ th ar sz rc vs n).set (2 * i) (th i, .inr (1, [.ref (ar i), .int (nI z), .int (bI b)])) = tl cJ th ar (va_up sz i z) (va_up rc i b) vs n := by
  induction n with
  | zero => omega
  | succ n ih =>
    simp only [tl]
    rw [List.set_append, tl_len]
    by_cases hi : i < n
    · rw [if_pos (by omega), ih hi, va_up_ne _ _ (show n ≠ i by omega), va_up_ne _ _ (show n ≠ i by omega)]
    · have hin : i = n := by omega
      subst hin
      rw [if_neg (by omega), Nat.sub_self, va_up_self, va_up_self]
      rw [tl_congr (th' := th) (ar' := ar) (sz' := va_up sz i z) (rc' := va_up rc i b) (vs' := vs) (fun k hk => ⟨rfl, rfl, (va_up_ne _ _ (show k ≠ i by omega)).symm, (va_up_ne _ _ (show k ≠ i by omega)).symm, rfl⟩)]
      rfl
theorem tl_setA {cJ : ClassId} {th ar sz : Nat → Nat} {rc : Nat → Bool} {vs : Nat → Nat → Int64} {n i : Nat} (g : Nat → Int64) (h : i < n) : (tl cJ th ar sz rc vs n).set (2 * i + 1) (ar i, .inl (cJ, 20, .inr (.inl g))) = tl cJ th ar sz rc (va_up vs i g) n := by
  induction n with
  | zero => omega
  | succ n ih =>
    simp only [tl]
    rw [List.set_append, tl_len]
    by_cases hi : i < n
    · rw [if_pos (by omega), ih hi, va_up_ne _ _ (show n ≠ i by omega)]
    · have hin : i = n := by omega
      subst hin
      rw [if_neg (by omega), show 2 * i + 1 - 2 * i = 1 by omega, va_up_self]
      rw [tl_congr (th' := th) (ar' := ar) (sz' := sz) (rc' := rc) (vs' := va_up vs i g) (fun k hk => ⟨rfl, rfl, rfl, rfl, (va_up_ne _ _ (show k ≠ i by omega)).symm⟩)]
      rfl
/-! the class: what stays (addresses, array kinds, rows, cells) and what moves -/
abbrev CF : Type := ((((Nat × Nat) × Nat) × (Nat × Nat)) × (((Nat × ClassId) × ClassId) × (Nat × Nat)))
abbrev kH (F : CF) : Nat := F.1.1.1.1
abbrev kR (F : CF) : Nat := F.1.1.1.2
abbrev kS (F : CF) : Nat := F.1.1.2
abbrev kM (F : CF) : Nat := F.1.2.1
abbrev kW (F : CF) : Nat := F.1.2.2
abbrev kE (F : CF) : Nat := F.2.1.1.1
abbrev kJ (F : CF) : ClassId := F.2.1.1.2
abbrev kT (F : CF) : ClassId := F.2.1.2
abbrev kN (F : CF) : Nat := F.2.2.1
abbrev kC (F : CF) : Nat := F.2.2.2
abbrev CS : Type := (((((Nat → Int64) × (Nat → Int64)) × (Nat × Nat)) × ((Nat × Nat) × (Nat → Nat))) × ((((Nat → Nat) × (Nat → Nat)) × ((Nat → Bool) × (Nat → Nat → Int64))) × ((Nat × Nat) × (Nat → Option Nat))))
abbrev rG (u : CS) : Nat → Int64 := u.1.1.1.1
abbrev sK (u : CS) : Nat → Int64 := u.1.1.1.2
abbrev sT (u : CS) : Nat := u.1.1.2.1
abbrev mD (u : CS) : Nat := u.1.1.2.2
abbrev fU (u : CS) : Nat := u.1.2.1.1
abbrev nU (u : CS) : Nat := u.1.2.1.2
abbrev tH (u : CS) : Nat → Nat := u.1.2.2
abbrev aR (u : CS) : Nat → Nat := u.2.1.1.1
abbrev sZ (u : CS) : Nat → Nat := u.2.1.1.2
abbrev rC (u : CS) : Nat → Bool := u.2.1.2.1
abbrev vS (u : CS) : Nat → Nat → Int64 := u.2.1.2.2
abbrev rO (u : CS) : Nat := u.2.2.1.1
abbrev rL (u : CS) : Nat := u.2.2.1.2
abbrev rE (u : CS) : Nat → Option Nat := u.2.2.2
abbrev uR (u : CS) (g : Nat → Int64) : CS := ((((g, sK u), (sT u, mD u)), ((fU u, nU u), tH u)), (((aR u, sZ u), (rC u, vS u)), ((rO u, rL u), rE u)))
abbrev uS (u : CS) (g : Nat → Int64) : CS := ((((rG u, g), (sT u, mD u)), ((fU u, nU u), tH u)), (((aR u, sZ u), (rC u, vS u)), ((rO u, rL u), rE u)))
abbrev uT (u : CS) (k : Nat) : CS := ((((rG u, sK u), (k, mD u)), ((fU u, nU u), tH u)), (((aR u, sZ u), (rC u, vS u)), ((rO u, rL u), rE u)))
abbrev uM (u : CS) (k : Nat) : CS := ((((rG u, sK u), (sT u, k)), ((fU u, nU u), tH u)), (((aR u, sZ u), (rC u, vS u)), ((rO u, rL u), rE u)))
abbrev uF (u : CS) (k : Nat) : CS := ((((rG u, sK u), (sT u, mD u)), ((k, nU u), tH u)), (((aR u, sZ u), (rC u, vS u)), ((rO u, rL u), rE u)))
abbrev uP (u : CS) (n : Nat) (th ar sz : Nat → Nat) (rc : Nat → Bool) (vs : Nat → Nat → Int64) : CS := ((((rG u, sK u), (sT u, mD u)), ((fU u, n), th)), (((ar, sz), (rc, vs)), ((rO u, rL u), rE u)))
abbrev uZ (u : CS) (sz : Nat → Nat) (rc : Nat → Bool) (vs : Nat → Nat → Int64) : CS := ((((rG u, sK u), (sT u, mD u)), ((fU u, nU u), tH u)), (((aR u, sz), (rc, vs)), ((rO u, rL u), rE u)))
abbrev uO (u : CS) (o r : Nat) (q : Nat → Option Nat) : CS := ((((rG u, sK u), (sT u, mD u)), ((fU u, nU u), tH u)), (((aR u, sZ u), (rC u, vS u)), ((o, r), q)))
abbrev uA (u : CS) (rg sk : Nat → Int64) (st md fu : Nat) : CS := ((((rg, sk), (st, md)), ((fu, nU u), tH u)), (((aR u, sZ u), (rC u, vS u)), ((rO u, rL u), rE u)))
abbrev uK (u : CS) (sz : Nat → Nat) (rc : Nat → Bool) (vs : Nat → Nat → Int64) (o r : Nat) (q : Nat → Option Nat) : CS := ((((rG u, sK u), (sT u, mD u)), ((fU u, nU u), tH u)), (((aR u, sz), (rc, vs)), ((o, r), q)))
/-- what the rows' array holds -/
def rW (n : Nat) (th : Nat → Nat) : Nat → Option Nat := fun i => if i < n then some (th i) else none
def cW (F : CF) (u : CS) : va_W :=
  (kH F, .inr (2, [.int (nI (kC F)), .ref (kR F), .ref (kS F), .ref (kM F), .int (nI (sT u)), .int (nI (mD u)), .int (nI (fU u))])) ::
  (kR F, .inl (kJ F, 10, .inr (.inl (rG u)))) :: (kS F, .inl (kJ F, 50, .inr (.inl (sK u)))) ::
  (kM F, .inr (0, [.ref (kW F), .ref (kE F), .int (nI (rO u)), .int (nI (rL u))])) ::
  (kW F, .inl (kT F, kN F, .inr (.inr (.inr (.inr (rW (nU u) (tH u))))))) :: (kE F, .inl (kT F, kN F, .inr (.inr (.inr (.inr (rE u)))))) ::
  tl (kJ F) (tH u) (aR u) (sZ u) (rC u) (vS u) (nU u)
abbrev cT (F : CF) : List (ClassId × FieldType) := [(kJ F, .long), (kT F, .object "SliceHeap$Thing")]
theorem cW_th (F : CF) (u : CS) {i : Nat} (h : i < nU u) : (cW F u)[2 * i + 6]? = some (tH u i, .inr (1, [.ref (aR u i), .int (nI (sZ u i)), .int (bI (rC u i))])) := tl_th h
theorem cW_ar (F : CF) (u : CS) {i : Nat} (h : i < nU u) : (cW F u)[2 * i + 7]? = some (aR u i, .inl (kJ F, 20, .inr (.inl (vS u i)))) := tl_ar h
theorem cW_setT (F : CF) (u : CS) {i : Nat} (z : Nat) (b : Bool) (h : i < nU u) : (cW F u).set (2 * i + 6) (tH u i, .inr (1, [.ref (aR u i), .int (nI z), .int (bI b)])) = cW F (uZ u (va_up (sZ u) i z) (va_up (rC u) i b) (vS u)) := by
  show _ :: _ :: _ :: _ :: _ :: _ :: (tl (kJ F) (tH u) (aR u) (sZ u) (rC u) (vS u) (nU u)).set (2 * i) _ = _
  rw [tl_setT z b h]
  rfl
theorem cW_setA (F : CF) (u : CS) {i : Nat} (g : Nat → Int64) (h : i < nU u) : (cW F u).set (2 * i + 7) (aR u i, .inl (kJ F, 20, .inr (.inl g))) = cW F (uZ u (sZ u) (rC u) (va_up (vS u) i g)) := by
  show _ :: _ :: _ :: _ :: _ :: _ :: (tl (kJ F) (tH u) (aR u) (sZ u) (rC u) (vS u) (nU u)).set (2 * i + 1) _ = _
  rw [tl_setA g h]
  rfl
theorem cW_congr (F : CF) (u v : CS) (h1 : rG u = rG v) (h2 : sK u = sK v) (h3 : sT u = sT v) (h4 : mD u = mD v) (h5 : fU u = fU v) (h6 : nU u = nU v) (h7 : rO u = rO v) (h8 : rL u = rL v) (h9 : rE u = rE v) (h : ∀ i, i < nU u → tH u i = tH v i ∧ aR u i = aR v i ∧ sZ u i = sZ v i ∧ rC u i = rC v i ∧ vS u i = vS v i) : cW F u = cW F v := by
  have e : rW (nU u) (tH u) = rW (nU v) (tH v) := by
    rw [← h6]
    funext i
    unfold rW
    by_cases hi : i < nU u
    · rw [if_pos hi, if_pos hi, (h i hi).1]
    · rw [if_neg hi, if_neg hi]
  unfold cW
  rw [h1, h2, h3, h4, h5, h7, h8, h9, e, tl_congr h, h6]
/-! the reference -/
abbrev DF : Type := ((((Nat × Nat) × Nat) × (Nat × Nat)) × ((ClassId × ClassId) × (ClassId × Nat)))
abbrev dH (F : DF) : Nat := F.1.1.1.1
abbrev dK (F : DF) : Nat := F.1.1.1.2
abbrev dV (F : DF) : Nat := F.1.1.2
abbrev dS (F : DF) : Nat := F.1.2.1
abbrev dR (F : DF) : Nat := F.1.2.2
abbrev dB (F : DF) : ClassId := F.2.1.1
abbrev dI (F : DF) : ClassId := F.2.1.2
abbrev dZ (F : DF) : ClassId := F.2.2.1
abbrev dC (F : DF) : Nat := F.2.2.2
abbrev DS : Type := ((((Nat → Int32) × (Nat → Int32)) × (Nat × Nat)) × ((Nat × (Nat → Nat)) × (Nat → Bool)))
abbrev gK (u : DS) : Nat → Int32 := u.1.1.1
abbrev gV (u : DS) : Nat → Int32 := u.1.1.2
abbrev gT (u : DS) : Nat := u.1.2.1
abbrev gM (u : DS) : Nat := u.1.2.2
abbrev gF (u : DS) : Nat := u.2.1.1
abbrev gS (u : DS) : Nat → Nat := u.2.1.2
abbrev gR (u : DS) : Nat → Bool := u.2.2
abbrev wV (u : DS) (k v : Nat → Int32) : DS := (((k, v), (gT u, gM u)), ((gF u, gS u), gR u))
abbrev wT (u : DS) (n : Nat) : DS := (((gK u, gV u), (n, gM u)), ((gF u, gS u), gR u))
abbrev wM (u : DS) (n : Nat) : DS := (((gK u, gV u), (gT u, n)), ((gF u, gS u), gR u))
abbrev wF (u : DS) (n : Nat) : DS := (((gK u, gV u), (gT u, gM u)), ((n, gS u), gR u))
abbrev wS (u : DS) (f : Nat → Nat) : DS := (((gK u, gV u), (gT u, gM u)), ((gF u, f), gR u))
abbrev wR (u : DS) (f : Nat → Bool) : DS := (((gK u, gV u), (gT u, gM u)), ((gF u, gS u), f))
def dW (F : DF) (u : DS) : va_W :=
  (dH F, .inr (3, [.int (nI (dC F)), .ref (dK F), .ref (dV F), .int (nI (gT u)), .int (nI (gM u)), .ref (dS F), .ref (dR F), .int (nI (gF u))])) ::
  (dK F, .inl (dB F, 10460, .inl (gK u))) :: (dV F, .inl (dI F, 10460, .inl (gV u))) ::
  (dS F, .inl (dI F, 520, .inl (fun j => nI (gS u j)))) :: (dR F, .inl (dZ F, 520, .inl (fun j => bI (gR u j)))) :: []
abbrev dT (F : DF) : List (ClassId × FieldType) := [(dB F, .byte), (dI F, .int), (dZ F, .boolean)]
theorem upd_nI (f : Nat → Nat) (k z : Nat) : upd (fun j => nI (f j)) k (nI z) = fun j => nI (va_up f k z j) := by
  funext j
  by_cases h : j = k
  · subst h; rw [pk_us, va_up_self]
  · rw [pk_un h, va_up_ne _ _ h]
theorem upd_bI (f : Nat → Bool) (k : Nat) (z : Bool) : upd (fun j => bI (f j)) k (bI z) = fun j => bI (va_up f k z j) := by
  funext j
  by_cases h : j = k
  · subst h; rw [pk_us, va_up_self]
  · rw [pk_un h, va_up_ne _ _ h]
theorem bI_t : bI true = 1 := rfl
theorem bI_f : bI false = 0 := rfl
theorem bI_0 {b : Bool} (h : bI b = 0) : b = false := by
  cases b
  · rfl
  · exact absurd h (by decide)
theorem bI_1 {b : Bool} (h : ¬ bI b = 0) : b = true := by
  cases b
  · exact absurd rfl h
  · rfl
/-- a register, as the calls name it -/
def isR (r : Int32) : Prop := ∃ j : Nat, j < 10 ∧ r = nI j
/-- an object as a value -/
def oB (i : Nat) : Int64 := lN (4294967297 + i)
/-- no object, no number -/
def nO : Int64 := lN 4294967296
