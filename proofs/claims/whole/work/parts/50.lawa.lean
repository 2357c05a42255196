/-! THE CLAIM OUT OF ONE WALK OF THE LAW'S BODY. Your part is whole_start (and what it stands on); all else here is the same for every law, but numbers. -/
def R_law : String := "SliceHeapLaw"
def lw_P (b : Addr) (xs : List Int32) (args : Array Value) (s : State) : Prop := args = #[.ref b] ∧ s.IntsAt b xs ∧ xs.length ≤ 2049 ∧ (Jvm.Cond.and given_1 narrow_1).before args s = true
def lw_Q (_ : Array Value) (s : State) (o : Outcome) (t : State) : Prop := o = .returned (some (.int 1)) ∧ Framed s o t [] 600000 7302250
def lw_Z (below : List Frame) (a : Array Value) (s : State) : State → Prop := fun t => ∃ o, t.status = .running ∧ Ended t below o ∧ lw_Q a s o t
/-- the law's own end, with 1 on the stack, nothing written that was there before, its room as the claim has it -/
theorem lw_ret {p : Program} {l : Launch} {e : Env} {s : State} {m : MethodId} {below : List Frame} {meth : Method} {c : Code} {b : Nat} (hx : p.tables.exec = Jvm.exec) (hb : c.code = code) (hr : meth.sig.returnType = ret) (hlocks : meth.locks = false) {pc : Nat} {H : Heap} {ls : Array Slot} (hdg : decode code pc = .ok (.ireturn, 1)) : W p l e room_1 s m #[Value.ref b] below meth c H [] 600000 7302250 (lw_Z below #[Value.ref b] s) (F0 m pc ls [.int 1]) := by
  intro T hT X
  obtain ⟨fs, hret, hrun, hended, hW, hframe⟩ := X.leave (v := some (.int 1)) (hlocks := hlocks) (fun h => by rw [hr] at h; cases h)
  have hmeth' : T.vm.method? m = some meth := X.method'
  refine ⟨T.setFrames fs, ?_, .returned (some (.int 1)), hrun, hended, rfl, ⟨_, rfl⟩, hW, hframe⟩
  jvm_step X.here [X.here.top, hx, hb, hdg, hmeth', hr, ret, narrow_b1]
  (try refine ⟨rfl, ?_⟩); (try refine ⟨rfl, ?_⟩)
  first | (intro acts; rw [hret _ acts rfl rfl rfl]) | rw [hret _ _ rfl rfl rfl]
  exact Steps.refl _
/-- what holds at the law's entry: the machine, the code, the tables' words (any of lw_tbl by 'hts w (by decide +kernel)'), the script of L ints xs at the cell b, what the Statement gives of the start (any of its parts by flat_of_before) -/
def lw_At (p : Program) (s : State) (m : MethodId) (meth : Method) (c : Code) (b L : Nat) (xs : Nat → Int32) : Prop :=
  p.tables.exec = Jvm.exec ∧ c.code = code ∧ meth.sig.returnType = ret ∧ c.maxLocals = 4 ∧ s.vm.findClass R_law = some m.cls ∧ (∀ w ∈ lw_tbl, w.before #[Value.ref b] s = true) ∧ va_X b L xs s s.heap ∧ b < s.heap.size ∧ meth.locks = false ∧ (Jvm.Cond.and given_1 narrow_1).before #[Value.ref b] s = true
section LAW
variable {p : Program} {l : Launch} {e : Env} {s : State} {m : MethodId} {below : List Frame} {meth : Method} {c : Code} {D : va_G} {Q : State → Prop} {ws : va_W} {lv : List (Nat × Value)} {pc : Nat} {st : List Value} {cells slots : Nat}
/-- the law's words -/
abbrev wLW : List Cond := .initialized "SliceHeapLaw" :: AL
abbrev aLW (s : State) : Nat → Prop := fun q => s.heap.size ≤ q
theorem gg_sld {tys : List (ClassId × FieldType)} {b L : Nat} {xs : Nat → Int32} (X : gx p s m #[Value.ref b] c code 4 RL wLW D vwCl tys (aLW s)) (hX : va_X b L xs s s.heap) (hbl : b < s.heap.size) (hdg : decode code pc = .ok (.iaload, 1)) {i : Int32} (j : Nat) (hi : i = nI j) (hj : j < L) (hL : L < 2147483648) (k : gg p l e room_1 s m #[Value.ref b] below meth c cells slots Q D vwCl (aLW s) 4 ws lv (pc + 1) (.int (xs j) :: st)) : gg p l e room_1 s m #[Value.ref b] below meth c cells slots Q D vwCl (aLW s) 4 ws lv pc (.int i :: .ref b :: st) := by
  intro H locs ls hP hD hS hl
  subst hi
  refine va_sld X.1 X.2.1 hX hbl (Nat.not_le.mpr hbl) hS (gg_in hj hL) hdg ?_
  rw [nI_clamp (by omega)]
  exact k H locs ls hP hD hS hl
theorem gg_slen {tys : List (ClassId × FieldType)} {b L : Nat} {xs : Nat → Int32} (X : gx p s m #[Value.ref b] c code 4 RL wLW D vwCl tys (aLW s)) (hX : va_X b L xs s s.heap) (hbl : b < s.heap.size) (hdg : decode code pc = .ok (.arraylength, 1)) (k : gg p l e room_1 s m #[Value.ref b] below meth c cells slots Q D vwCl (aLW s) 4 ws lv (pc + 1) (.int (nI L) :: st)) : gg p l e room_1 s m #[Value.ref b] below meth c cells slots Q D vwCl (aLW s) 4 ws lv pc (.ref b :: st) := fun H locs ls hP hD hS hl => va_slen X.1 X.2.1 hX hbl (Nat.not_le.mpr hbl) hS hdg (k H locs ls hP hD hS hl)
/-- an array class by its word -/
theorem arr_at {ty : FieldType} {args : Array Value} {U : State} (h : (Cond.arrayClass ty).before args U = true) (hp : ∀ C, ty ≠ .object C) : ∃ cA : ClassId, ArrOfT U cA ty ∧ va_RA U cA ty := by
  obtain ⟨cA, k, comp, h1, h2, h3⟩ := Cond.arrayClass_spec h
  refine ⟨cA, fun n z => ⟨fun k h => (by cases h), k, h2, comp, h3⟩, ?_⟩
  cases ty with
  | object C => exact absurd rfl (hp C)
  | _ => exact h1
theorem arr_ob {C : String} {U : State} (h : va_AO C U) : ∃ cA : ClassId, ArrOfT U cA (.object C) ∧ va_RA U cA (.object C) := by
  obtain ⟨comp, cA, k, h1, h2, h3, h4, h5⟩ := Cond.arrayOver_spec h
  exact ⟨cA, fun n z => ⟨fun k h => (by cases h), k, h3, comp, h4⟩, k, comp, h3, h4, h1, h5⟩
theorem op_of (x : Int32) : ∃ k : Nat, k < 16 ∧ x &&& 15 = nI k := pk_andE x (m := 15) 4 (by decide)
/-- a loop whose room grows -/
theorem gg_loopC {R : Room} {args : Array Value} {cl : List vw_C} {A : Nat → Prop} {nL : Nat} {ι : Type} (I : ι → Prop) (mu cf sf : ι → Nat) (wf : ι → va_W) (lf : ι → List (Nat × Value)) (step : ∀ a, I a → (∀ b, I b → mu b < mu a → gg p l e R s m args below meth c (cf b) (sf b) Q D cl A nL (wf b) (lf b) pc st) → gg p l e R s m args below meth c (cf a) (sf a) Q D cl A nL (wf a) (lf a) pc st) (a : ι) (h : I a) : gg p l e R s m args below meth c (cf a) (sf a) Q D cl A nL (wf a) (lf a) pc st := by
  have key : ∀ (n : Nat) (a : ι), mu a < n → I a → gg p l e R s m args below meth c (cf a) (sf a) Q D cl A nL (wf a) (lf a) pc st := by
    intro n
    induction n with
    | zero => intro a h1; omega
    | succ n ih => intro a h1 h2; exact step a h2 (fun b hb hm => ih b (by omega) hb)
  exact key (mu a + 1) a (Nat.lt_succ_self _) h
end LAW
set_option maxHeartbeats 4000000 in
set_option maxRecDepth 100000 in
/-- cell(script, 0) -/
theorem k_cell (l : Launch) (b L : Nat) (xs : Nat → Int32) (hL : L < 2147483648) : Met l yL_cell wL_cell ({ frames := 0, cells := 0, slots := 0, locals := 0 }) (va_Pc [.ref b, .int 0] (fun U => va_X b L xs U U.heap ∧ b < U.heap.size)) (QcRead (if L = 0 then 0 else xs 0)) 0 0 (fun _ => False) := by
  refine Met.ofW (cc := cL_cell) (maxL := 2) (ret := (some .int)) (by decide) rfl ?_
  intro p e s m args below meth c s₁ B hml hv
  obtain ⟨rfl, hX, hbl⟩ := hv
  have hx := B.exec
  have hb := B.bytes
  have hr := B.returns
  have hlocks := B.notSynchronized
  have hbA : ¬ (fun q : Nat => s.heap.size ≤ q) b := Nat.not_le.mpr hbl
  have hS : va_S (fun q : Nat => s.heap.size ≤ q) s.heap s.heap [] := va_S.rf
  have hl := lv_entry ([.ref b, .int 0]) (n := 2) (Nat.le_of_ble_eq_true rfl)
  rw [lg_entry_eq]
  generalize (lg_sl ([.ref b, .int 0]) ++ List.replicate (2 - (lg_sl ([.ref b, .int 0])).length) Slot.unset).toArray = ls at hl ⊢
  have hl : lv_has ls 2 [(0, .ref b), (1, .int 0)] := hl
  refine lv_iload_n hx hb dL_cell_0 rfl (lv_at hl 1 rfl) ?_
  refine lv_aload_n hx hb dL_cell_1 rfl (lv_at hl 0 rfl) ?_
  refine va_slen hx hb hX hbl hbA hS dL_cell_2 ?_
  refine lv_icmp_ge (tgt := 12) hx hb dL_cell_3 (by decide) (fun c_3 => ?_) (fun c_3 => ?_)
  · have h0 : L = 0 := by
      have := (nI_leI (a := L) (b := 0) (by omega) (by omega)).mp c_3
      omega
    refine lv_iconst (v := 0) hx hb dL_cell_12 (by decide) ?_
    exact W.iret (v := 0) hx hb hr (fun t ht hW => ⟨by rw [if_pos h0], ht⟩) (fun q h => by cases h) dL_cell_13
  · have h0 : ¬ L = 0 := fun h => c_3 (by rw [h]; decide)
    refine lv_aload_n hx hb dL_cell_6 rfl (lv_at hl 0 rfl) ?_
    refine lv_iload_n hx hb dL_cell_7 rfl (lv_at hl 1 rfl) ?_
    refine va_sld hx hb hX hbl hbA hS (i := 0) (vp_in_nI (n := 0) (N := L) (by omega) (by omega)) dL_cell_8 ?_
    refine lv_goto (tgt := 13) hx hb dL_cell_9 (by decide) ?_
    exact W.iret (v := xs (0 : Int32).toNatClampNeg) hx hb hr (fun t ht hW => ⟨by rw [if_neg h0]; rfl, ht⟩) (fun q h => by cases h) dL_cell_13
section LAW2
variable {p : Program} {l : Launch} {e : Env} {s : State} {m : MethodId} {below : List Frame} {meth : Method} {c : Code} {D : va_G} {Q : State → Prop} {ws : va_W} {lv : List (Nat × Value)} {pc : Nat} {st : List Value} {cells slots : Nat}
theorem gg_cell {tys : List (ClassId × FieldType)} {b L : Nat} {xs : Nat → Int32} (X : gx p s m #[Value.ref b] c code 4 RL wLW D vwCl tys (aLW s)) (hX : va_X b L xs s s.heap) (hbl : b < s.heap.size) (hL : L < 2147483648) (hdg : decode code pc = .ok (.invokestatic 9, 3)) (hst : (st.map fun v => v.category).sum ≤ 8) (hc : cells + 0 ≤ room_1.cells ∧ slots + 0 ≤ room_1.slots) (k : gg p l e room_1 s m #[Value.ref b] below meth c cells slots Q D vwCl (aLW s) 4 ws lv (pc + 3) (.int (if L = 0 then 0 else xs 0) :: st)) : gg p l e room_1 s m #[Value.ref b] below meth c cells slots Q D vwCl (aLW s) 4 ws lv pc (.int 0 :: .ref b :: st) := by
  intro H locs ls hP hD hS hl
  refine W.callR (W.runS (As := [.ref b, .int 0]) (rest := st) ⟨X.1, X.2.1, X.2.2.1, X.2.2.2.1, X.2.2.2.2.1⟩ (k_cell l b L xs hL) (cwS 2 X.2.2.2.2.1 (gdS (al 134 rfl) (al 135 rfl) (al 0 rfl) (al 136 rfl)) rfl rfl rfl (by decide +kernel) ⟨Nat.le_of_ble_eq_true rfl, Nat.le_of_ble_eq_true rfl⟩) ⟨fun a U g mk q => ⟨q.1, va_X.moved (u := U) (U := U.calling g mk a) (Vm.Alike.refl U.vm) q.2.1, q.2.2⟩, fun U hU hW => ⟨rfl, ?_, ?_⟩⟩ rfl rfl hl.1 rfl (lv_room hst) hdg hc) (k H locs ls hP hD hS hl)
  · rw [hU]
    exact (hX.kept (hS.2.1 b hbl (Nat.not_le.mpr hbl))).moved hW.alike
  · rw [hU]
    exact Nat.lt_of_lt_of_le hbl hS.1
end LAW2
