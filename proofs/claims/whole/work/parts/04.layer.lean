/-- the machine of one method: world, locals, stack; heap and old writes are left out -/
def gg (p : Program) (l : Launch) (e : Env) (R : Room) (s : State) (m : MethodId) (args : Array Value) (below : List Frame) (meth : Method) (c : Code) (cells slots : Nat) (Q : State → Prop) (D : va_G) (cl : List vw_C) (A : Nat → Prop) (nL : Nat) (ws : va_W) (lv : List (Nat × Value)) (pc : Nat) (st : List Value) : Prop :=
  ∀ (H : Heap) (locs : List Loc) (ls : Array Slot), va_P D cl ws H → va_D A ws → va_S A s.heap H locs → lv_has ls nL lv → W p l e R s m args below meth c H locs cells slots Q (F0 m pc ls st)
/-- what holds all through a method -/
abbrev gx (p : Program) (s : State) (m : MethodId) (args : Array Value) (c : Code) (cc : ByteArray) (nL : Nat) (own : String) (Ts : List Cond) (D : va_G) (cl : List vw_C) (tys : List (ClassId × FieldType)) (A : Nat → Prop) : Prop :=
  p.tables.exec = Jvm.exec ∧ c.code = cc ∧ c.maxLocals = nL ∧ s.vm.findClass own = some m.cls ∧ (∀ w ∈ Ts, w.before args s = true) ∧ va_K D cl tys s ∧ (∀ q : Nat, s.heap.size ≤ q → A q) ∧ NF s
/-- a contract's start -/
def gP (D : va_G) (cl : List vw_C) (tys : List (ClassId × FieldType)) (sz : Nat) (ws : va_W) (U : State) : Prop := U.heap.size = sz ∧ va_P D cl ws U.heap ∧ va_K D cl tys U ∧ va_D (fun _ => True) ws ∧ NF U
theorem gP_blind {D : va_G} {cl : List vw_C} {tys : List (ClassId × FieldType)} {sz : Nat} {ws : va_W} {av : List Value} : FrameBlind (va_Pc av (gP D cl tys sz ws)) := fun a U g mk q => by
  obtain ⟨q0, q1, qP, qK, qD, qN⟩ := q
  exact ⟨q0, q1, qP, va_K.moved (u := U) (U := U.calling g mk a) (Vm.Alike.refl U.vm) qK, qD, NF.same (u := U) (U := U.calling g mk a) rfl qN⟩
theorem gP_at {D : va_G} {cl : List vw_C} {tys : List (ClassId × FieldType)} {ws : va_W} {s : State} {H : Heap} {A : Nat → Prop} {av : List Value} (hK : va_K D cl tys s) (hN : NF s) (hP : va_P D cl ws H) (hD : va_D A ws) : ∀ U : State, U.heap = H → s.WarmedH U.vm → va_Pc av (gP D cl tys H.size ws) av.toArray U :=
  fun U hU hW => ⟨rfl, by rw [hU], by rw [hU]; exact hP, va_K.moved hW.alike hK, hD.weaken (fun _ _ _ _ => trivial), NF.warm hW hN⟩
/-- a contract over a world -/
abbrev mG (l : Launch) (y : MethodName) (wds : List Cond) (rm : Room) (D : va_G) (cl : List vw_C) (tys : List (ClassId × FieldType)) (av : List Value) (ws : va_W) (QQ : (Nat → Prop) → Array Value → State → Outcome → State → Prop) : Prop :=
  ∀ sz : Nat, Met l y wds rm (va_Pc av (gP D cl tys sz ws)) (QQ (va_A ws sz)) rm.cells rm.slots (va_A ws sz)
abbrev qI {S : Type} (D : va_G) (cl : List vw_C) (post : Int32 → S → Prop) (wo : S → va_W) : (Nat → Prop) → Array Value → State → Outcome → State → Prop := fun A => va_Qi post (fun u t => va_P D cl (wo u) t.heap ∧ va_D A (wo u)) A
abbrev qL {S : Type} (D : va_G) (cl : List vw_C) (post : Int64 → S → Prop) (wo : S → va_W) : (Nat → Prop) → Array Value → State → Outcome → State → Prop := fun A => va_Ql post (fun u t => va_P D cl (wo u) t.heap ∧ va_D A (wo u)) A
abbrev qV {S : Type} (D : va_G) (cl : List vw_C) (post : S → Prop) (wo : S → va_W) : (Nat → Prop) → Array Value → State → Outcome → State → Prop := fun A => va_Qv post (fun u t => va_P D cl (wo u) t.heap ∧ va_D A (wo u)) A
abbrev qQ {S : Type} (D : va_G) (cl : List vw_C) (post : Option Nat → S → Prop) (wo : S → va_W) : (Nat → Prop) → Array Value → State → Outcome → State → Prop := fun A => va_Qq post (fun u t => va_P D cl (wo u) t.heap ∧ va_D A (wo u)) A
theorem gg_met {l : Launch} {y : MethodName} {wds wds' : List Cond} {rm : Room} {D : va_G} {cl : List vw_C} {tys : List (ClassId × FieldType)} {av : List Value} {ws : va_W} {QQ : (Nat → Prop) → Array Value → State → Outcome → State → Prop} {cc : ByteArray} {nL : Nat} {ret : Option FieldType} {lv : List (Nat × Value)}
    (hy : plainName y.cls = true) (hw : wds = Cond.code y cc nL ret :: wds') (hlv : lv_args 0 av = lv) (hlen : (lg_sl av).length ≤ nL)
    (body : ∀ (p : Program) (e : Env) (s : State) (m : MethodId) (below : List Frame) (meth : Method) (c : Code) (A : Nat → Prop), gx p s m av.toArray c cc nL y.cls wds D cl tys A → meth.sig.returnType = ret → meth.locks = false → meth.name = y.name →
      gg p l e rm s m av.toArray below meth c 0 0 (MQ below (QQ A) av.toArray s rm.cells rm.slots A) D cl A nL ws lv 0 []) : mG l y wds rm D cl tys av ws QQ := by
  intro sz
  refine Met.ofW (cc := cc) (maxL := nL) (ret := ret) hy hw ?_
  intro p e s m args below meth c s₁ B hml hv
  obtain ⟨rfl, hsz, hP, hK, hD0, hN⟩ := hv
  subst hsz
  have hD := hD0.self (sz := s.heap.size)
  have hl := lv_entry av (n := nL) hlen
  rw [hlv] at hl
  rw [lg_entry_eq]
  exact body p e s m below meth c (va_A ws s.heap.size) ⟨B.exec, B.bytes, hml, findClass_of_methodNamed B.named, atoms_spec (ws := wds) B.pre, hK, fun q h => Or.inr h, hN⟩ B.returns B.notSynchronized (name_of_methodNamed B.named B.method).1 s.heap [] _ hP hD va_S.rf hl
theorem va_D.left {A : Nat → Prop} {w1 w2 : va_W} (hD : va_D A (w1 ++ w2)) : va_D A w1 :=
  hD.by id (fun k q hq => by show (w1 ++ w2)[k]? = some q; rw [List.getElem?_append_left (List.getElem?_eq_some_iff.mp hq).1]; exact hq) (fun _ _ _ _ h => h)
theorem gj_at {w1 w2 : va_W} {k : Nat} {q : Nat × va_E} (hq : w2[k]? = some q) : (w1 ++ w2)[w1.length + k]? = some q := by
  rw [List.getElem?_append_right (Nat.le_add_right _ _), Nat.add_sub_cancel_left]; exact hq
theorem gj_at1 {w1 w2 : va_W} {k : Nat} {q : Nat × va_E} (hq : w1[k]? = some q) : (w1 ++ w2)[k]? = some q := by
  rw [List.getElem?_append_left (List.getElem?_eq_some_iff.mp hq).1]; exact hq
theorem va_D.right {A : Nat → Prop} {w1 w2 : va_W} (hD : va_D A (w1 ++ w2)) : va_D A w2 :=
  hD.by (fun k => w1.length + k) (fun _ _ hq => gj_at hq) (fun i j _ _ h => by omega)
theorem va_P.left {D : va_G} {cl : List vw_C} {w1 w2 : va_W} {H : Heap} (hP : va_P D cl (w1 ++ w2) H) : va_P D cl w1 H := fun k q hq => hP k q (gj_at1 hq)
theorem va_P.right {D : va_G} {cl : List vw_C} {w1 w2 : va_W} {H : Heap} (hP : va_P D cl (w1 ++ w2) H) : va_P D cl w2 H := fun k q hq => hP _ q (gj_at hq)
theorem gj_L {A : Nat → Prop} {D : va_G} {cl : List vw_C} {wc wr w1 : va_W} {H H1 : Heap} (hP : va_P D cl (wc ++ wr) H) (hD : va_D A (wc ++ wr)) (hk : ∀ q : Nat, q < H.size → ¬ va_A wc H.size q → H1[q]? = H[q]?) (hF : ∀ q, va_A wc H.size q → A q) (hP1 : va_P D cl w1 H1) (hD1 : va_D (va_A wc H.size) w1) : va_P D cl (w1 ++ wr) H1 ∧ va_D A (w1 ++ wr) := by
  have apart : ∀ (k : Nat) (q : Nat × va_E), wr[k]? = some q → q.1 < H.size ∧ ¬ va_A wc H.size q.1 := by
    intro k q hq
    have h2 := gj_at (w1 := wc) hq
    refine ⟨(hP _ q h2).lt, fun h => ?_⟩
    rcases h with ⟨j, x, h⟩ | h
    · have h3 := gj_at1 (w2 := wr) h
      have h4 := hD.1 _ _ q (q.1, x) h2 h3 rfl
      have h5 := (List.getElem?_eq_some_iff.mp h).1
      omega
    · have := (hP _ q h2).lt
      omega
  refine ⟨va_P.app hP1 (fun k q hq => ?_), va_D.app (hD1.weaken (fun k q _ h => hF q.1 h)) hD.right (fun i j x y hx hy hxy => ?_)⟩
  · exact (hP _ q (gj_at hq)).kept (hk q.1 (apart k q hq).1 (apart k q hq).2)
  · exact (apart j y hy).2 (by rw [← hxy]; exact hD1.2 i x hx)
theorem gj_R {A : Nat → Prop} {D : va_G} {cl : List vw_C} {wc wl w1 : va_W} {H H1 : Heap} (hP : va_P D cl (wl ++ wc) H) (hD : va_D A (wl ++ wc)) (hk : ∀ q : Nat, q < H.size → ¬ va_A wc H.size q → H1[q]? = H[q]?) (hF : ∀ q, va_A wc H.size q → A q) (hP1 : va_P D cl w1 H1) (hD1 : va_D (va_A wc H.size) w1) : va_P D cl (wl ++ w1) H1 ∧ va_D A (wl ++ w1) := by
  have apart : ∀ (k : Nat) (q : Nat × va_E), wl[k]? = some q → q.1 < H.size ∧ ¬ va_A wc H.size q.1 := by
    intro k q hq
    have h2 := gj_at1 (w2 := wc) hq
    have h5 := (List.getElem?_eq_some_iff.mp hq).1
    refine ⟨(hP _ q h2).lt, fun h => ?_⟩
    rcases h with ⟨j, x, h⟩ | h
    · have h3 := gj_at (w1 := wl) h
      have h4 := hD.1 _ _ q (q.1, x) h2 h3 rfl
      omega
    · have := (hP _ q h2).lt
      omega
  refine ⟨va_P.app (fun k q hq => ?_) hP1, va_D.app hD.left (hD1.weaken (fun k q _ h => hF q.1 h)) (fun i j x y hx hy hxy => ?_)⟩
  · exact (hP _ q (gj_at1 hq)).kept (hk q.1 (apart k q hq).1 (apart k q hq).2)
  · exact (apart i x hx).2 (by rw [hxy]; exact hD1.2 j y hy)
theorem gg_in {n N : Nat} (h : n < N) (hN : N < 2147483648) : vp_in (nI n) N := vp_in_nI h (by omega)

section GG
variable {p : Program} {l : Launch} {e : Env} {R : Room} {s : State} {m : MethodId} {args : Array Value} {below : List Frame} {meth : Method} {c : Code} {cells slots : Nat} {Q : State → Prop}
variable {cc : ByteArray} {nL : Nat} {own : String} {Ts : List Cond} {D : va_G} {cl : List vw_C} {tys : List (ClassId × FieldType)} {A : Nat → Prop} {ws : va_W} {lv : List (Nat × Value)} {pc : Nat} {st : List Value}

theorem gg_ws {ws' : va_W} (h : ws = ws') (k : gg p l e R s m args below meth c cells slots Q D cl A nL ws' lv pc st) : gg p l e R s m args below meth c cells slots Q D cl A nL ws lv pc st := by subst h; exact k
theorem gg_st {st' : List Value} (h : st = st') (k : gg p l e R s m args below meth c cells slots Q D cl A nL ws lv pc st') : gg p l e R s m args below meth c cells slots Q D cl A nL ws lv pc st := by subst h; exact k
theorem gg_lv {lv' : List (Nat × Value)} (ks : List Nat) (h : lv_pick lv ks = lv') (k : gg p l e R s m args below meth c cells slots Q D cl A nL ws lv' pc st) : gg p l e R s m args below meth c cells slots Q D cl A nL ws lv pc st := fun H locs ls hP hD hS hl => k H locs ls hP hD hS (lv_sub hl ks h)
theorem gg_lve {lv' : List (Nat × Value)} (h : lv = lv') (k : gg p l e R s m args below meth c cells slots Q D cl A nL ws lv' pc st) : gg p l e R s m args below meth c cells slots Q D cl A nL ws lv pc st := by subst h; exact k
theorem gg_wide {k n : Nat} (h1 : cells ≤ k) (h2 : slots ≤ n) (kk : gg p l e R s m args below meth c k n Q D cl A nL ws lv pc st) : gg p l e R s m args below meth c cells slots Q D cl A nL ws lv pc st := fun H locs ls hP hD hS hl => W.widen h1 h2 (kk H locs ls hP hD hS hl)
theorem gg_apart {i j a b : Nat} {x y : va_E} (hi : ws[i]? = some (a, x)) (hj : ws[j]? = some (b, y)) (hne : i ≠ j) (k : a ≠ b → gg p l e R s m args below meth c cells slots Q D cl A nL ws lv pc st) : gg p l e R s m args below meth c cells slots Q D cl A nL ws lv pc st := fun H locs ls hP hD hS hl => k (fun q => hne (hD.1 i j _ _ hi hj q)) H locs ls hP hD hS hl
theorem gg_D (k : va_D A ws → gg p l e R s m args below meth c cells slots Q D cl A nL ws lv pc st) : gg p l e R s m args below meth c cells slots Q D cl A nL ws lv pc st := fun H locs ls hP hD hS hl => k hD H locs ls hP hD hS hl
theorem gg_iconst (X : gx p s m args c cc nL own Ts D cl tys A) {n : Int} {v : Int32} (hdg : decode cc pc = .ok (.iconst n, 1)) (hv : Int32.ofInt n = v) (k : gg p l e R s m args below meth c cells slots Q D cl A nL ws lv (pc + 1) (.int v :: st)) : gg p l e R s m args below meth c cells slots Q D cl A nL ws lv pc (st) := fun H locs ls hP hD hS hl => lv_iconst X.1 X.2.1 hdg hv (k H locs ls hP hD hS hl)
theorem gg_bipush (X : gx p s m args c cc nL own Ts D cl tys A) {n : Int} {v : Int32} (hdg : decode cc pc = .ok (.bipush n, 2)) (hv : (Int8.ofInt n).toInt32 = v) (k : gg p l e R s m args below meth c cells slots Q D cl A nL ws lv (pc + 2) (.int v :: st)) : gg p l e R s m args below meth c cells slots Q D cl A nL ws lv pc (st) := fun H locs ls hP hD hS hl => lv_bipush X.1 X.2.1 hdg hv (k H locs ls hP hD hS hl)
theorem gg_sipush (X : gx p s m args c cc nL own Ts D cl tys A) {n : Int} {v : Int32} (hdg : decode cc pc = .ok (.sipush n, 3)) (hv : (Int16.ofInt n).toInt32 = v) (k : gg p l e R s m args below meth c cells slots Q D cl A nL ws lv (pc + 3) (.int v :: st)) : gg p l e R s m args below meth c cells slots Q D cl A nL ws lv pc (st) := fun H locs ls hP hD hS hl => lv_sipush X.1 X.2.1 hdg hv (k H locs ls hP hD hS hl)
theorem gg_lconst (X : gx p s m args c cc nL own Ts D cl tys A) {n : Fin 2} {v : Int64} (hdg : decode cc pc = .ok (.lconst n, 1)) (hv : Int64.ofNat (n : Nat) = v) (k : gg p l e R s m args below meth c cells slots Q D cl A nL ws lv (pc + 1) (.long v :: st)) : gg p l e R s m args below meth c cells slots Q D cl A nL ws lv pc (st) := fun H locs ls hP hD hS hl => lv_lconst X.1 X.2.1 hdg hv (k H locs ls hP hD hS hl)
theorem gg_null (X : gx p s m args c cc nL own Ts D cl tys A)  (hdg : decode cc pc = .ok (.aconst_null, 1)) (k : gg p l e R s m args below meth c cells slots Q D cl A nL ws lv (pc + 1) (.null :: st)) : gg p l e R s m args below meth c cells slots Q D cl A nL ws lv pc (st) := fun H locs ls hP hD hS hl => lv_null X.1 X.2.1 hdg (k H locs ls hP hD hS hl)
theorem gg_ldc2 (X : gx p s m args c cc nL own Ts D cl tys A) {index : Nat} {v : Int64} (hc : Jvm.Cond.constantLong own index v ∈ Ts) (hdg : decode cc pc = .ok (.ldc2_w index, 3)) (k : gg p l e R s m args below meth c cells slots Q D cl A nL ws lv (pc + 3) (.long v :: st)) : gg p l e R s m args below meth c cells slots Q D cl A nL ws lv pc (st) := fun H locs ls hP hD hS hl => lv_ldc2 X.1 X.2.1 X.2.2.2.1 (X.2.2.2.2.1 _ hc) hdg (k H locs ls hP hD hS hl)
theorem gg_iload_n (X : gx p s m args c cc nL own Ts D cl tys A) {k : Fin 4} {i : Nat} {x : Int32} (hdg : decode cc pc = .ok (.iload_n k, 1)) (hi : (k : Nat) = i) (j : Nat) (hj : lv[j]? = some (i, .int x)) (k : gg p l e R s m args below meth c cells slots Q D cl A nL ws lv (pc + 1) (.int x :: st)) : gg p l e R s m args below meth c cells slots Q D cl A nL ws lv pc (st) := fun H locs ls hP hD hS hl => lv_iload_n X.1 X.2.1 hdg hi (lv_at hl j hj) (k H locs ls hP hD hS hl)
theorem gg_iload (X : gx p s m args c cc nL own Ts D cl tys A) {i : Nat} {x : Int32} (hdg : decode cc pc = .ok (.iload i, 2)) (j : Nat) (hj : lv[j]? = some (i, .int x)) (k : gg p l e R s m args below meth c cells slots Q D cl A nL ws lv (pc + 2) (.int x :: st)) : gg p l e R s m args below meth c cells slots Q D cl A nL ws lv pc (st) := fun H locs ls hP hD hS hl => lv_iload X.1 X.2.1 hdg (lv_at hl j hj) (k H locs ls hP hD hS hl)
theorem gg_lload_n (X : gx p s m args c cc nL own Ts D cl tys A) {k : Fin 4} {i : Nat} {x : Int64} (hdg : decode cc pc = .ok (.lload_n k, 1)) (hi : (k : Nat) = i) (j : Nat) (hj : lv[j]? = some (i, .long x)) (k : gg p l e R s m args below meth c cells slots Q D cl A nL ws lv (pc + 1) (.long x :: st)) : gg p l e R s m args below meth c cells slots Q D cl A nL ws lv pc (st) := fun H locs ls hP hD hS hl => lv_lload_n X.1 X.2.1 hdg hi (lv_at hl j hj) (k H locs ls hP hD hS hl)
theorem gg_lload (X : gx p s m args c cc nL own Ts D cl tys A) {i : Nat} {x : Int64} (hdg : decode cc pc = .ok (.lload i, 2)) (j : Nat) (hj : lv[j]? = some (i, .long x)) (k : gg p l e R s m args below meth c cells slots Q D cl A nL ws lv (pc + 2) (.long x :: st)) : gg p l e R s m args below meth c cells slots Q D cl A nL ws lv pc (st) := fun H locs ls hP hD hS hl => lv_lload X.1 X.2.1 hdg (lv_at hl j hj) (k H locs ls hP hD hS hl)
theorem gg_aload_n (X : gx p s m args c cc nL own Ts D cl tys A) {k : Fin 4} {i : Nat} {x : Nat} (hdg : decode cc pc = .ok (.aload_n k, 1)) (hi : (k : Nat) = i) (j : Nat) (hj : lv[j]? = some (i, .ref x)) (k : gg p l e R s m args below meth c cells slots Q D cl A nL ws lv (pc + 1) (.ref x :: st)) : gg p l e R s m args below meth c cells slots Q D cl A nL ws lv pc (st) := fun H locs ls hP hD hS hl => lv_aload_n X.1 X.2.1 hdg hi (lv_at hl j hj) (k H locs ls hP hD hS hl)
theorem gg_aload (X : gx p s m args c cc nL own Ts D cl tys A) {i : Nat} {x : Nat} (hdg : decode cc pc = .ok (.aload i, 2)) (j : Nat) (hj : lv[j]? = some (i, .ref x)) (k : gg p l e R s m args below meth c cells slots Q D cl A nL ws lv (pc + 2) (.ref x :: st)) : gg p l e R s m args below meth c cells slots Q D cl A nL ws lv pc (st) := fun H locs ls hP hD hS hl => lv_aload X.1 X.2.1 hdg (lv_at hl j hj) (k H locs ls hP hD hS hl)
theorem gg_aload_nN (X : gx p s m args c cc nL own Ts D cl tys A) {k : Fin 4} {i : Nat} (hdg : decode cc pc = .ok (.aload_n k, 1)) (hi : (k : Nat) = i) (j : Nat) (hj : lv[j]? = some (i, .null)) (k : gg p l e R s m args below meth c cells slots Q D cl A nL ws lv (pc + 1) (.null :: st)) : gg p l e R s m args below meth c cells slots Q D cl A nL ws lv pc (st) := fun H locs ls hP hD hS hl => lv_aload_nN X.1 X.2.1 hdg hi (lv_at hl j hj) (k H locs ls hP hD hS hl)
theorem gg_aloadN (X : gx p s m args c cc nL own Ts D cl tys A) {i : Nat} (hdg : decode cc pc = .ok (.aload i, 2)) (j : Nat) (hj : lv[j]? = some (i, .null)) (k : gg p l e R s m args below meth c cells slots Q D cl A nL ws lv (pc + 2) (.null :: st)) : gg p l e R s m args below meth c cells slots Q D cl A nL ws lv pc (st) := fun H locs ls hP hD hS hl => lv_aloadN X.1 X.2.1 hdg (lv_at hl j hj) (k H locs ls hP hD hS hl)
theorem gg_aload_nq (X : gx p s m args c cc nL own Ts D cl tys A) {k : Fin 4} {i : Nat} {r : Option Nat} (hdg : decode cc pc = .ok (.aload_n k, 1)) (hi : (k : Nat) = i) (j : Nat) (hj : lv[j]? = some (i, va_rf r)) (k : gg p l e R s m args below meth c cells slots Q D cl A nL ws lv (pc + 1) (va_rf r :: st)) : gg p l e R s m args below meth c cells slots Q D cl A nL ws lv pc st := by
  cases r with
  | none => exact gg_aload_nN X hdg hi j hj k
  | some a => exact gg_aload_n X hdg hi j hj k
theorem gg_aloadq (X : gx p s m args c cc nL own Ts D cl tys A) {i : Nat} {r : Option Nat} (hdg : decode cc pc = .ok (.aload i, 2)) (j : Nat) (hj : lv[j]? = some (i, va_rf r)) (k : gg p l e R s m args below meth c cells slots Q D cl A nL ws lv (pc + 2) (va_rf r :: st)) : gg p l e R s m args below meth c cells slots Q D cl A nL ws lv pc st := by
  cases r with
  | none => exact gg_aloadN X hdg j hj k
  | some a => exact gg_aload X hdg j hj k
theorem gg_istore_n (X : gx p s m args c cc nL own Ts D cl tys A) {k : Fin 4} {i : Nat} {x : Int32} {lv' : List (Nat × Value)} (hdg : decode cc pc = .ok (.istore_n k, 1)) (hi : (k : Nat) = i) (hn : i < nL) (hl' : (i, Value.int x) :: lv.filter (fun q => !(q.1 == i) && !(q.1 + 1 == i && q.2.category == 2)) = lv') (k : gg p l e R s m args below meth c cells slots Q D cl A nL ws lv' (pc + 1) st) : gg p l e R s m args below meth c cells slots Q D cl A nL ws lv pc (Value.int x :: st) := fun H locs ls hP hD hS hl => lv_istore_n X.1 X.2.1 hdg hi hl hn hl' (fun ls' h' => k H locs ls' hP hD hS h')
theorem gg_istore (X : gx p s m args c cc nL own Ts D cl tys A) {i : Nat} {x : Int32} {lv' : List (Nat × Value)} (hdg : decode cc pc = .ok (.istore i, 2)) (hn : i < nL) (hl' : (i, Value.int x) :: lv.filter (fun q => !(q.1 == i) && !(q.1 + 1 == i && q.2.category == 2)) = lv') (k : gg p l e R s m args below meth c cells slots Q D cl A nL ws lv' (pc + 2) st) : gg p l e R s m args below meth c cells slots Q D cl A nL ws lv pc (Value.int x :: st) := fun H locs ls hP hD hS hl => lv_istore X.1 X.2.1 hdg hl hn hl' (fun ls' h' => k H locs ls' hP hD hS h')
theorem gg_lstore_n (X : gx p s m args c cc nL own Ts D cl tys A) {k : Fin 4} {i : Nat} {x : Int64} {lv' : List (Nat × Value)} (hdg : decode cc pc = .ok (.lstore_n k, 1)) (hi : (k : Nat) = i) (hn : i + 1 < nL) (hl' : (i, Value.long x) :: lv.filter (fun q => !(q.1 == i) && (!(q.1 == i + 1) && !(q.1 + 1 == i && q.2.category == 2))) = lv') (k : gg p l e R s m args below meth c cells slots Q D cl A nL ws lv' (pc + 1) st) : gg p l e R s m args below meth c cells slots Q D cl A nL ws lv pc (Value.long x :: st) := fun H locs ls hP hD hS hl => lv_lstore_n X.1 X.2.1 hdg hi hl hn hl' (fun ls' h' => k H locs ls' hP hD hS h')
theorem gg_lstore (X : gx p s m args c cc nL own Ts D cl tys A) {i : Nat} {x : Int64} {lv' : List (Nat × Value)} (hdg : decode cc pc = .ok (.lstore i, 2)) (hn : i + 1 < nL) (hl' : (i, Value.long x) :: lv.filter (fun q => !(q.1 == i) && (!(q.1 == i + 1) && !(q.1 + 1 == i && q.2.category == 2))) = lv') (k : gg p l e R s m args below meth c cells slots Q D cl A nL ws lv' (pc + 2) st) : gg p l e R s m args below meth c cells slots Q D cl A nL ws lv pc (Value.long x :: st) := fun H locs ls hP hD hS hl => lv_lstore X.1 X.2.1 hdg hl hn hl' (fun ls' h' => k H locs ls' hP hD hS h')
theorem gg_astore_n (X : gx p s m args c cc nL own Ts D cl tys A) {k : Fin 4} {i : Nat} {x : Nat} {lv' : List (Nat × Value)} (hdg : decode cc pc = .ok (.astore_n k, 1)) (hi : (k : Nat) = i) (hn : i < nL) (hl' : (i, Value.ref x) :: lv.filter (fun q => !(q.1 == i) && !(q.1 + 1 == i && q.2.category == 2)) = lv') (k : gg p l e R s m args below meth c cells slots Q D cl A nL ws lv' (pc + 1) st) : gg p l e R s m args below meth c cells slots Q D cl A nL ws lv pc (Value.ref x :: st) := fun H locs ls hP hD hS hl => lv_astore_n X.1 X.2.1 hdg hi hl hn hl' (fun ls' h' => k H locs ls' hP hD hS h')
theorem gg_astore (X : gx p s m args c cc nL own Ts D cl tys A) {i : Nat} {x : Nat} {lv' : List (Nat × Value)} (hdg : decode cc pc = .ok (.astore i, 2)) (hn : i < nL) (hl' : (i, Value.ref x) :: lv.filter (fun q => !(q.1 == i) && !(q.1 + 1 == i && q.2.category == 2)) = lv') (k : gg p l e R s m args below meth c cells slots Q D cl A nL ws lv' (pc + 2) st) : gg p l e R s m args below meth c cells slots Q D cl A nL ws lv pc (Value.ref x :: st) := fun H locs ls hP hD hS hl => lv_astore X.1 X.2.1 hdg hl hn hl' (fun ls' h' => k H locs ls' hP hD hS h')
theorem gg_astore_nN (X : gx p s m args c cc nL own Ts D cl tys A) {k : Fin 4} {i : Nat} {lv' : List (Nat × Value)} (hdg : decode cc pc = .ok (.astore_n k, 1)) (hi : (k : Nat) = i) (hn : i < nL) (hl' : (i, Value.null) :: lv.filter (fun q => !(q.1 == i) && !(q.1 + 1 == i && q.2.category == 2)) = lv') (k : gg p l e R s m args below meth c cells slots Q D cl A nL ws lv' (pc + 1) st) : gg p l e R s m args below meth c cells slots Q D cl A nL ws lv pc (Value.null :: st) := fun H locs ls hP hD hS hl => lv_astore_nN X.1 X.2.1 hdg hi hl hn hl' (fun ls' h' => k H locs ls' hP hD hS h')
theorem gg_astoreN (X : gx p s m args c cc nL own Ts D cl tys A) {i : Nat} {lv' : List (Nat × Value)} (hdg : decode cc pc = .ok (.astore i, 2)) (hn : i < nL) (hl' : (i, Value.null) :: lv.filter (fun q => !(q.1 == i) && !(q.1 + 1 == i && q.2.category == 2)) = lv') (k : gg p l e R s m args below meth c cells slots Q D cl A nL ws lv' (pc + 2) st) : gg p l e R s m args below meth c cells slots Q D cl A nL ws lv pc (Value.null :: st) := fun H locs ls hP hD hS hl => lv_astoreN X.1 X.2.1 hdg hl hn hl' (fun ls' h' => k H locs ls' hP hD hS h')
theorem gg_astore_nq (X : gx p s m args c cc nL own Ts D cl tys A) {k : Fin 4} {i : Nat} {r : Option Nat} {lv' : List (Nat × Value)} (hdg : decode cc pc = .ok (.astore_n k, 1)) (hi : (k : Nat) = i) (hn : i < nL) (hl' : (i, va_rf r) :: lv.filter (fun q => !(q.1 == i) && !(q.1 + 1 == i && q.2.category == 2)) = lv') (k : gg p l e R s m args below meth c cells slots Q D cl A nL ws lv' (pc + 1) st) : gg p l e R s m args below meth c cells slots Q D cl A nL ws lv pc (va_rf r :: st) := by
  cases r with
  | none => exact gg_astore_nN X hdg hi hn hl' k
  | some a => exact gg_astore_n X hdg hi hn hl' k
theorem gg_astoreq (X : gx p s m args c cc nL own Ts D cl tys A) {i : Nat} {r : Option Nat} {lv' : List (Nat × Value)} (hdg : decode cc pc = .ok (.astore i, 2)) (hn : i < nL) (hl' : (i, va_rf r) :: lv.filter (fun q => !(q.1 == i) && !(q.1 + 1 == i && q.2.category == 2)) = lv') (k : gg p l e R s m args below meth c cells slots Q D cl A nL ws lv' (pc + 2) st) : gg p l e R s m args below meth c cells slots Q D cl A nL ws lv pc (va_rf r :: st) := by
  cases r with
  | none => exact gg_astoreN X hdg hn hl' k
  | some a => exact gg_astore X hdg hn hl' k
theorem gg_loop {ι : Type} (I : ι → Prop) (mu : ι → Nat) (wf : ι → va_W) (lf : ι → List (Nat × Value)) (step : ∀ a, I a → (∀ b, I b → mu b < mu a → gg p l e R s m args below meth c cells slots Q D cl A nL (wf b) (lf b) pc st) → gg p l e R s m args below meth c cells slots Q D cl A nL (wf a) (lf a) pc st) (a : ι) (h : I a) : gg p l e R s m args below meth c cells slots Q D cl A nL (wf a) (lf a) pc st := by
  have key : ∀ (n : Nat) (a : ι), mu a < n → I a → gg p l e R s m args below meth c cells slots Q D cl A nL (wf a) (lf a) pc st := by
    intro n
    induction n with
    | zero => intro a h1; omega
    | succ n ih => intro a h1 h2; exact step a h2 (fun b hb hm => ih b (by omega) hb)
  exact key (mu a + 1) a (Nat.lt_succ_self _) h
theorem gg_iinc (X : gx p s m args c cc nL own Ts D cl tys A) {i : Nat} {n : Int} {x v : Int32} {lv' : List (Nat × Value)} (hdg : decode cc pc = .ok (.iinc i n, 3)) (j : Nat) (hj : lv[j]? = some (i, .int x)) (hv : x + Int32.ofInt n = v) (hn : i < nL) (hl' : (i, Value.int v) :: lv.filter (fun q => !(q.1 == i) && !(q.1 + 1 == i && q.2.category == 2)) = lv') (k : gg p l e R s m args below meth c cells slots Q D cl A nL ws lv' (pc + 3) st) : gg p l e R s m args below meth c cells slots Q D cl A nL ws lv pc st := fun H locs ls hP hD hS hl => lv_iinc X.1 X.2.1 hdg hl hj hv hn hl' (fun ls' h' => k H locs ls' hP hD hS h')
theorem gg_iadd (X : gx p s m args c cc nL own Ts D cl tys A) {x y v : Int32} (hdg : decode cc pc = .ok (.iadd, 1)) (hv : x + y = v) (k : gg p l e R s m args below meth c cells slots Q D cl A nL ws lv (pc + 1) (.int v :: st)) : gg p l e R s m args below meth c cells slots Q D cl A nL ws lv pc (.int y :: .int x :: st) := fun H locs ls hP hD hS hl => lv_iadd X.1 X.2.1 hdg (by subst hv; exact k H locs ls hP hD hS hl)
theorem gg_isub (X : gx p s m args c cc nL own Ts D cl tys A) {x y v : Int32} (hdg : decode cc pc = .ok (.isub, 1)) (hv : x - y = v) (k : gg p l e R s m args below meth c cells slots Q D cl A nL ws lv (pc + 1) (.int v :: st)) : gg p l e R s m args below meth c cells slots Q D cl A nL ws lv pc (.int y :: .int x :: st) := fun H locs ls hP hD hS hl => lv_isub X.1 X.2.1 hdg (by subst hv; exact k H locs ls hP hD hS hl)
theorem gg_imul (X : gx p s m args c cc nL own Ts D cl tys A) {x y v : Int32} (hdg : decode cc pc = .ok (.imul, 1)) (hv : x * y = v) (k : gg p l e R s m args below meth c cells slots Q D cl A nL ws lv (pc + 1) (.int v :: st)) : gg p l e R s m args below meth c cells slots Q D cl A nL ws lv pc (.int y :: .int x :: st) := fun H locs ls hP hD hS hl => lv_imul X.1 X.2.1 hdg (by subst hv; exact k H locs ls hP hD hS hl)
theorem gg_iand (X : gx p s m args c cc nL own Ts D cl tys A) {x y v : Int32} (hdg : decode cc pc = .ok (.iand, 1)) (hv : x &&& y = v) (k : gg p l e R s m args below meth c cells slots Q D cl A nL ws lv (pc + 1) (.int v :: st)) : gg p l e R s m args below meth c cells slots Q D cl A nL ws lv pc (.int y :: .int x :: st) := fun H locs ls hP hD hS hl => lv_iand X.1 X.2.1 hdg (by subst hv; exact k H locs ls hP hD hS hl)
theorem gg_ladd (X : gx p s m args c cc nL own Ts D cl tys A) {x y v : Int64} (hdg : decode cc pc = .ok (.ladd, 1)) (hv : x + y = v) (k : gg p l e R s m args below meth c cells slots Q D cl A nL ws lv (pc + 1) (.long v :: st)) : gg p l e R s m args below meth c cells slots Q D cl A nL ws lv pc (.long y :: .long x :: st) := fun H locs ls hP hD hS hl => lv_ladd X.1 X.2.1 hdg (by subst hv; exact k H locs ls hP hD hS hl)
theorem gg_lsub (X : gx p s m args c cc nL own Ts D cl tys A) {x y v : Int64} (hdg : decode cc pc = .ok (.lsub, 1)) (hv : x - y = v) (k : gg p l e R s m args below meth c cells slots Q D cl A nL ws lv (pc + 1) (.long v :: st)) : gg p l e R s m args below meth c cells slots Q D cl A nL ws lv pc (.long y :: .long x :: st) := fun H locs ls hP hD hS hl => lv_lsub X.1 X.2.1 hdg (by subst hv; exact k H locs ls hP hD hS hl)
theorem gg_idiv (X : gx p s m args c cc nL own Ts D cl tys A) {x y v : Int32} (hdg : decode cc pc = .ok (.idiv, 1)) (hne : ¬ y = 0) (hv : x / y = v) (k : gg p l e R s m args below meth c cells slots Q D cl A nL ws lv (pc + 1) (.int v :: st)) : gg p l e R s m args below meth c cells slots Q D cl A nL ws lv pc (.int y :: .int x :: st) := fun H locs ls hP hD hS hl => lv_idiv X.1 X.2.1 hdg hne (by subst hv; exact k H locs ls hP hD hS hl)
theorem gg_i2l (X : gx p s m args c cc nL own Ts D cl tys A) {x : Int32} {v : Int64} (hdg : decode cc pc = .ok (.i2l, 1)) (hv : x.toInt64 = v) (k : gg p l e R s m args below meth c cells slots Q D cl A nL ws lv (pc + 1) (.long v :: st)) : gg p l e R s m args below meth c cells slots Q D cl A nL ws lv pc (.int x :: st) := fun H locs ls hP hD hS hl => lv_i2l X.1 X.2.1 hdg hv (k H locs ls hP hD hS hl)
theorem gg_l2i (X : gx p s m args c cc nL own Ts D cl tys A) {x : Int64} {v : Int32} (hdg : decode cc pc = .ok (.l2i, 1)) (hv : x.toInt32 = v) (k : gg p l e R s m args below meth c cells slots Q D cl A nL ws lv (pc + 1) (.int v :: st)) : gg p l e R s m args below meth c cells slots Q D cl A nL ws lv pc (.long x :: st) := fun H locs ls hP hD hS hl => lv_l2i X.1 X.2.1 hdg hv (k H locs ls hP hD hS hl)
theorem gg_lcmp (X : gx p s m args c cc nL own Ts D cl tys A) {x y : Int64} (hdg : decode cc pc = .ok (.lcmp, 1)) (k : gg p l e R s m args below meth c cells slots Q D cl A nL ws lv (pc + 1) (.int (lg_cmp x y) :: st)) : gg p l e R s m args below meth c cells slots Q D cl A nL ws lv pc (.long y :: .long x :: st) := fun H locs ls hP hD hS hl => W.lcmp X.1 X.2.1 hdg (k H locs ls hP hD hS hl)
theorem gg_dup (X : gx p s m args c cc nL own Ts D cl tys A) {va : Value} (hdg : decode cc pc = .ok (.dup, 1)) (hva : va.category = 1) (k : gg p l e R s m args below meth c cells slots Q D cl A nL ws lv (pc + 1) (va :: va :: st)) : gg p l e R s m args below meth c cells slots Q D cl A nL ws lv pc (va :: st) := fun H locs ls hP hD hS hl => lv_dup X.1 X.2.1 hdg hva (k H locs ls hP hD hS hl)
theorem gg_pop (X : gx p s m args c cc nL own Ts D cl tys A) {va : Value} (hdg : decode cc pc = .ok (.pop, 1)) (hva : va.category = 1) (k : gg p l e R s m args below meth c cells slots Q D cl A nL ws lv (pc + 1) (st)) : gg p l e R s m args below meth c cells slots Q D cl A nL ws lv pc (va :: st) := fun H locs ls hP hD hS hl => lv_pop X.1 X.2.1 hdg hva (k H locs ls hP hD hS hl)
theorem gg_dup2 (X : gx p s m args c cc nL own Ts D cl tys A) {va vb : Value} (hdg : decode cc pc = .ok (.dup2, 1)) (hva : va.category = 1) (hvb : vb.category = 1) (k : gg p l e R s m args below meth c cells slots Q D cl A nL ws lv (pc + 1) (va :: vb :: va :: vb :: st)) : gg p l e R s m args below meth c cells slots Q D cl A nL ws lv pc (va :: vb :: st) := fun H locs ls hP hD hS hl => lv_dup2_11 X.1 X.2.1 hdg hva hvb (k H locs ls hP hD hS hl)
theorem gg_if_eq (X : gx p s m args c cc nL own Ts D cl tys A) {x : Int32} {off : Int} {tgt : Nat} (hdg : decode cc pc = .ok (.ifCond .eq off, 3)) (ht : (pc : Int) + off = (tgt : Int)) (kt : x = 0 → gg p l e R s m args below meth c cells slots Q D cl A nL ws lv tgt st) (kf : ¬ x = 0 → gg p l e R s m args below meth c cells slots Q D cl A nL ws lv (pc + 3) st) : gg p l e R s m args below meth c cells slots Q D cl A nL ws lv pc (.int x :: st) := fun H locs ls hP hD hS hl => lv_if_eq X.1 X.2.1 hdg ht (fun q => kt q H locs ls hP hD hS hl) (fun q => kf q H locs ls hP hD hS hl)
theorem gg_icmp_eq (X : gx p s m args c cc nL own Ts D cl tys A) {x y : Int32} {off : Int} {tgt : Nat} (hdg : decode cc pc = .ok (.if_icmp .eq off, 3)) (ht : (pc : Int) + off = (tgt : Int)) (kt : x = y → gg p l e R s m args below meth c cells slots Q D cl A nL ws lv tgt st) (kf : ¬ x = y → gg p l e R s m args below meth c cells slots Q D cl A nL ws lv (pc + 3) st) : gg p l e R s m args below meth c cells slots Q D cl A nL ws lv pc (.int y :: .int x :: st) := fun H locs ls hP hD hS hl => lv_icmp_eq X.1 X.2.1 hdg ht (fun q => kt q H locs ls hP hD hS hl) (fun q => kf q H locs ls hP hD hS hl)
theorem gg_if_ne (X : gx p s m args c cc nL own Ts D cl tys A) {x : Int32} {off : Int} {tgt : Nat} (hdg : decode cc pc = .ok (.ifCond .ne off, 3)) (ht : (pc : Int) + off = (tgt : Int)) (kt : ¬ x = 0 → gg p l e R s m args below meth c cells slots Q D cl A nL ws lv tgt st) (kf : x = 0 → gg p l e R s m args below meth c cells slots Q D cl A nL ws lv (pc + 3) st) : gg p l e R s m args below meth c cells slots Q D cl A nL ws lv pc (.int x :: st) := fun H locs ls hP hD hS hl => lv_if_ne X.1 X.2.1 hdg ht (fun q => kt q H locs ls hP hD hS hl) (fun q => kf q H locs ls hP hD hS hl)
theorem gg_icmp_ne (X : gx p s m args c cc nL own Ts D cl tys A) {x y : Int32} {off : Int} {tgt : Nat} (hdg : decode cc pc = .ok (.if_icmp .ne off, 3)) (ht : (pc : Int) + off = (tgt : Int)) (kt : ¬ x = y → gg p l e R s m args below meth c cells slots Q D cl A nL ws lv tgt st) (kf : x = y → gg p l e R s m args below meth c cells slots Q D cl A nL ws lv (pc + 3) st) : gg p l e R s m args below meth c cells slots Q D cl A nL ws lv pc (.int y :: .int x :: st) := fun H locs ls hP hD hS hl => lv_icmp_ne X.1 X.2.1 hdg ht (fun q => kt q H locs ls hP hD hS hl) (fun q => kf q H locs ls hP hD hS hl)
theorem gg_if_lt (X : gx p s m args c cc nL own Ts D cl tys A) {x : Int32} {off : Int} {tgt : Nat} (hdg : decode cc pc = .ok (.ifCond .lt off, 3)) (ht : (pc : Int) + off = (tgt : Int)) (kt : x < 0 → gg p l e R s m args below meth c cells slots Q D cl A nL ws lv tgt st) (kf : ¬ x < 0 → gg p l e R s m args below meth c cells slots Q D cl A nL ws lv (pc + 3) st) : gg p l e R s m args below meth c cells slots Q D cl A nL ws lv pc (.int x :: st) := fun H locs ls hP hD hS hl => lv_if_lt X.1 X.2.1 hdg ht (fun q => kt q H locs ls hP hD hS hl) (fun q => kf q H locs ls hP hD hS hl)
theorem gg_icmp_lt (X : gx p s m args c cc nL own Ts D cl tys A) {x y : Int32} {off : Int} {tgt : Nat} (hdg : decode cc pc = .ok (.if_icmp .lt off, 3)) (ht : (pc : Int) + off = (tgt : Int)) (kt : x < y → gg p l e R s m args below meth c cells slots Q D cl A nL ws lv tgt st) (kf : ¬ x < y → gg p l e R s m args below meth c cells slots Q D cl A nL ws lv (pc + 3) st) : gg p l e R s m args below meth c cells slots Q D cl A nL ws lv pc (.int y :: .int x :: st) := fun H locs ls hP hD hS hl => lv_icmp_lt X.1 X.2.1 hdg ht (fun q => kt q H locs ls hP hD hS hl) (fun q => kf q H locs ls hP hD hS hl)
theorem gg_if_ge (X : gx p s m args c cc nL own Ts D cl tys A) {x : Int32} {off : Int} {tgt : Nat} (hdg : decode cc pc = .ok (.ifCond .ge off, 3)) (ht : (pc : Int) + off = (tgt : Int)) (kt : 0 ≤ x → gg p l e R s m args below meth c cells slots Q D cl A nL ws lv tgt st) (kf : ¬ 0 ≤ x → gg p l e R s m args below meth c cells slots Q D cl A nL ws lv (pc + 3) st) : gg p l e R s m args below meth c cells slots Q D cl A nL ws lv pc (.int x :: st) := fun H locs ls hP hD hS hl => lv_if_ge X.1 X.2.1 hdg ht (fun q => kt q H locs ls hP hD hS hl) (fun q => kf q H locs ls hP hD hS hl)
theorem gg_icmp_ge (X : gx p s m args c cc nL own Ts D cl tys A) {x y : Int32} {off : Int} {tgt : Nat} (hdg : decode cc pc = .ok (.if_icmp .ge off, 3)) (ht : (pc : Int) + off = (tgt : Int)) (kt : y ≤ x → gg p l e R s m args below meth c cells slots Q D cl A nL ws lv tgt st) (kf : ¬ y ≤ x → gg p l e R s m args below meth c cells slots Q D cl A nL ws lv (pc + 3) st) : gg p l e R s m args below meth c cells slots Q D cl A nL ws lv pc (.int y :: .int x :: st) := fun H locs ls hP hD hS hl => lv_icmp_ge X.1 X.2.1 hdg ht (fun q => kt q H locs ls hP hD hS hl) (fun q => kf q H locs ls hP hD hS hl)
theorem gg_if_gt (X : gx p s m args c cc nL own Ts D cl tys A) {x : Int32} {off : Int} {tgt : Nat} (hdg : decode cc pc = .ok (.ifCond .gt off, 3)) (ht : (pc : Int) + off = (tgt : Int)) (kt : 0 < x → gg p l e R s m args below meth c cells slots Q D cl A nL ws lv tgt st) (kf : ¬ 0 < x → gg p l e R s m args below meth c cells slots Q D cl A nL ws lv (pc + 3) st) : gg p l e R s m args below meth c cells slots Q D cl A nL ws lv pc (.int x :: st) := fun H locs ls hP hD hS hl => lv_if_gt X.1 X.2.1 hdg ht (fun q => kt q H locs ls hP hD hS hl) (fun q => kf q H locs ls hP hD hS hl)
theorem gg_icmp_gt (X : gx p s m args c cc nL own Ts D cl tys A) {x y : Int32} {off : Int} {tgt : Nat} (hdg : decode cc pc = .ok (.if_icmp .gt off, 3)) (ht : (pc : Int) + off = (tgt : Int)) (kt : y < x → gg p l e R s m args below meth c cells slots Q D cl A nL ws lv tgt st) (kf : ¬ y < x → gg p l e R s m args below meth c cells slots Q D cl A nL ws lv (pc + 3) st) : gg p l e R s m args below meth c cells slots Q D cl A nL ws lv pc (.int y :: .int x :: st) := fun H locs ls hP hD hS hl => lv_icmp_gt X.1 X.2.1 hdg ht (fun q => kt q H locs ls hP hD hS hl) (fun q => kf q H locs ls hP hD hS hl)
theorem gg_if_le (X : gx p s m args c cc nL own Ts D cl tys A) {x : Int32} {off : Int} {tgt : Nat} (hdg : decode cc pc = .ok (.ifCond .le off, 3)) (ht : (pc : Int) + off = (tgt : Int)) (kt : x ≤ 0 → gg p l e R s m args below meth c cells slots Q D cl A nL ws lv tgt st) (kf : ¬ x ≤ 0 → gg p l e R s m args below meth c cells slots Q D cl A nL ws lv (pc + 3) st) : gg p l e R s m args below meth c cells slots Q D cl A nL ws lv pc (.int x :: st) := fun H locs ls hP hD hS hl => lv_if_le X.1 X.2.1 hdg ht (fun q => kt q H locs ls hP hD hS hl) (fun q => kf q H locs ls hP hD hS hl)
theorem gg_icmp_le (X : gx p s m args c cc nL own Ts D cl tys A) {x y : Int32} {off : Int} {tgt : Nat} (hdg : decode cc pc = .ok (.if_icmp .le off, 3)) (ht : (pc : Int) + off = (tgt : Int)) (kt : x ≤ y → gg p l e R s m args below meth c cells slots Q D cl A nL ws lv tgt st) (kf : ¬ x ≤ y → gg p l e R s m args below meth c cells slots Q D cl A nL ws lv (pc + 3) st) : gg p l e R s m args below meth c cells slots Q D cl A nL ws lv pc (.int y :: .int x :: st) := fun H locs ls hP hD hS hl => lv_icmp_le X.1 X.2.1 hdg ht (fun q => kt q H locs ls hP hD hS hl) (fun q => kf q H locs ls hP hD hS hl)
theorem gg_goto (X : gx p s m args c cc nL own Ts D cl tys A) {off : Int} {tgt : Nat} (hdg : decode cc pc = .ok (.goto off, 3)) (ht : (pc : Int) + off = (tgt : Int)) (k : gg p l e R s m args below meth c cells slots Q D cl A nL ws lv tgt (st)) : gg p l e R s m args below meth c cells slots Q D cl A nL ws lv pc (st) := fun H locs ls hP hD hS hl => lv_goto X.1 X.2.1 hdg ht (k H locs ls hP hD hS hl)
theorem gg_ifnull (X : gx p s m args c cc nL own Ts D cl tys A) {r : Option Nat} {off : Int} {tgt : Nat} (hdg : decode cc pc = .ok (.ifnull off, 3)) (ht : (pc : Int) + off = (tgt : Int)) (kt : r = none → gg p l e R s m args below meth c cells slots Q D cl A nL ws lv tgt st) (kf : ∀ a : Nat, r = some a → gg p l e R s m args below meth c cells slots Q D cl A nL ws lv (pc + 3) st) : gg p l e R s m args below meth c cells slots Q D cl A nL ws lv pc (va_rf r :: st) := by
  intro H locs ls hP hD hS hl
  cases r with
  | none => exact lv_ifnullN X.1 X.2.1 hdg ht (kt rfl H locs ls hP hD hS hl)
  | some a => exact lv_ifnull X.1 X.2.1 hdg (kf a rfl H locs ls hP hD hS hl)
theorem gg_ifnonnull (X : gx p s m args c cc nL own Ts D cl tys A) {r : Option Nat} {off : Int} {tgt : Nat} (hdg : decode cc pc = .ok (.ifnonnull off, 3)) (ht : (pc : Int) + off = (tgt : Int)) (kt : ∀ a : Nat, r = some a → gg p l e R s m args below meth c cells slots Q D cl A nL ws lv tgt st) (kf : r = none → gg p l e R s m args below meth c cells slots Q D cl A nL ws lv (pc + 3) st) : gg p l e R s m args below meth c cells slots Q D cl A nL ws lv pc (va_rf r :: st) := by
  intro H locs ls hP hD hS hl
  cases r with
  | none => exact lv_ifnonnullN X.1 X.2.1 hdg (kf rfl H locs ls hP hD hS hl)
  | some a => exact lv_ifnonnull X.1 X.2.1 hdg ht (kt a rfl H locs ls hP hD hS hl)
theorem gg_ifnullS (X : gx p s m args c cc nL own Ts D cl tys A) {x : Nat} {off : Int} (hdg : decode cc pc = .ok (.ifnull off, 3)) (k : gg p l e R s m args below meth c cells slots Q D cl A nL ws lv (pc + 3) (st)) : gg p l e R s m args below meth c cells slots Q D cl A nL ws lv pc (.ref x :: st) := fun H locs ls hP hD hS hl => lv_ifnull X.1 X.2.1 hdg (k H locs ls hP hD hS hl)
theorem gg_ifnullZ (X : gx p s m args c cc nL own Ts D cl tys A) {off : Int} {tgt : Nat} (hdg : decode cc pc = .ok (.ifnull off, 3)) (ht : (pc : Int) + off = (tgt : Int)) (k : gg p l e R s m args below meth c cells slots Q D cl A nL ws lv tgt (st)) : gg p l e R s m args below meth c cells slots Q D cl A nL ws lv pc (.null :: st) := fun H locs ls hP hD hS hl => lv_ifnullN X.1 X.2.1 hdg ht (k H locs ls hP hD hS hl)
theorem gg_ifnonnullS (X : gx p s m args c cc nL own Ts D cl tys A) {x : Nat} {off : Int} {tgt : Nat} (hdg : decode cc pc = .ok (.ifnonnull off, 3)) (ht : (pc : Int) + off = (tgt : Int)) (k : gg p l e R s m args below meth c cells slots Q D cl A nL ws lv tgt (st)) : gg p l e R s m args below meth c cells slots Q D cl A nL ws lv pc (.ref x :: st) := fun H locs ls hP hD hS hl => lv_ifnonnull X.1 X.2.1 hdg ht (k H locs ls hP hD hS hl)
theorem gg_ifnonnullZ (X : gx p s m args c cc nL own Ts D cl tys A) {off : Int} (hdg : decode cc pc = .ok (.ifnonnull off, 3)) (k : gg p l e R s m args below meth c cells slots Q D cl A nL ws lv (pc + 3) (st)) : gg p l e R s m args below meth c cells slots Q D cl A nL ws lv pc (.null :: st) := fun H locs ls hP hD hS hl => lv_ifnonnullN X.1 X.2.1 hdg (k H locs ls hP hD hS hl)
theorem gg_tableOut (X : gx p s m args c cc nL own Ts D cl tys A) {dflt lo hi : Int} {offs : Array Int} {len : Nat} {x : Int32} {tgt : Nat} (hdg : decode cc pc = .ok (.tableswitch dflt lo hi offs, len)) (h : x.toInt < lo ∨ hi < x.toInt) (ht : (pc : Int) + dflt = (tgt : Int)) (k : gg p l e R s m args below meth c cells slots Q D cl A nL ws lv tgt st) : gg p l e R s m args below meth c cells slots Q D cl A nL ws lv pc (.int x :: st) := fun H locs ls hP hD hS hl => lv_tableOut X.1 X.2.1 hdg h ht (k H locs ls hP hD hS hl)
theorem gg_tableIn (X : gx p s m args c cc nL own Ts D cl tys A) {dflt lo hi : Int} {offs : Array Int} {len : Nat} {x : Int32} {off : Int} {tgt : Nat} (hdg : decode cc pc = .ok (.tableswitch dflt lo hi offs, len)) (h1 : ¬ x.toInt < lo) (h2 : ¬ hi < x.toInt) (ho : offs[(x.toInt - lo).toNat]? = some off) (ht : (pc : Int) + off = (tgt : Int)) (k : gg p l e R s m args below meth c cells slots Q D cl A nL ws lv tgt st) : gg p l e R s m args below meth c cells slots Q D cl A nL ws lv pc (.int x :: st) := fun H locs ls hP hD hS hl => lv_tableIn X.1 X.2.1 hdg h1 h2 ho ht (k H locs ls hP hD hS hl)
theorem gg_get (X : gx p s m args c cc nL own Ts D cl tys A) {C : String} {T : u_T} {N ci index : Nat} {a : Nat} (hdg : decode cc pc = .ok (.getfield index, 3)) (hin : ∀ w ∈ u_ws C T N, w ∈ Ts) (q0 : Nat) {fs : List Value} (he : ws[q0]? = some (a, .inr (ci, fs))) (hc : cl[ci]? = some (C, T, N)) (k : Nat) (hk : k < N) (hm : Cond.fieldLink own index (T k).1 (T k).2.1 (T k).2.2.1 ∈ Ts) {v : Value} (hv : fs[k]? = some v) (kk : gg p l e R s m args below meth c cells slots Q D cl A nL ws lv (pc + 3) (v :: st)) : gg p l e R s m args below meth c cells slots Q D cl A nL ws lv pc (.ref a :: st) := fun H locs ls hP hD hS hl => va_get X.1 X.2.1 X.2.2.2.2.1 hin X.2.2.2.1 X.2.2.2.2.2.1 hP q0 he hc k hk (X.2.2.2.2.1 _ hm) (fun _ h9 => h9) hv hdg (kk H locs ls hP hD hS hl)
theorem gg_getN (X : gx p s m args c cc nL own Ts D cl tys A) {C : String} {T : u_T} {N ci index : Nat} {a : Nat} {host : String} (hdg : decode cc pc = .ok (.getfield index, 3)) (hin : ∀ w ∈ u_ws C T N, w ∈ Ts) (q0 : Nat) {fs : List Value} (he : ws[q0]? = some (a, .inr (ci, fs))) (hc : cl[ci]? = some (C, T, N)) (k : Nat) (hk : k < N) (hm : va_Nw (.fieldLinkNest own index (T k).1 (T k).2.1 (T k).2.2.1 host) s) {v : Value} (hv : fs[k]? = some v) (kk : gg p l e R s m args below meth c cells slots Q D cl A nL ws lv (pc + 3) (v :: st)) : gg p l e R s m args below meth c cells slots Q D cl A nL ws lv pc (.ref a :: st) := fun H locs ls hP hD hS hl => va_getN X.1 X.2.1 X.2.2.2.2.1 hin X.2.2.2.1 X.2.2.2.2.2.1 hP q0 he hc k hk (va_Nw.use rfl hm) (fun _ h9 => h9) hv hdg (kk H locs ls hP hD hS hl)
theorem gg_put (X : gx p s m args c cc nL own Ts D cl tys A) {C : String} {T : u_T} {N ci index : Nat} {a : Nat} (hdg : decode cc pc = .ok (.putfield index, 3)) (hin : ∀ w ∈ u_ws C T N, w ∈ Ts) (ty0 : Nat → FieldType) (hty : ∀ k, k < N → parseFieldDescriptor (T k).2.2.1 = some (ty0 k)) (hnm : ∀ a, a < N → ∀ b, b < N → a ≠ b → (T a).2.1 ≠ (T b).2.1) (q0 : Nat) {fs : List Value} (he : ws[q0]? = some (a, .inr (ci, fs))) (hc : cl[ci]? = some (C, T, N)) (k : Nat) (hk : k < N) (hm : Cond.fieldLink own index (T k).1 (T k).2.1 (T k).2.2.1 ∈ Ts) {ws' : va_W} (hfin : (T k).2.2.2 = false) {ty : FieldType} {v : Value} (hd : parseFieldDescriptor (T k).2.2.1 = some ty) (hn : narrow ty v = v) (hfit : fits ty v = true) (hl' : k < fs.length) (hws : ws.set q0 (a, .inr (ci, fs.set k v)) = ws') (kk : gg p l e R s m args below meth c cells slots Q D cl A nL ws' lv (pc + 3) st) : gg p l e R s m args below meth c cells slots Q D cl A nL ws lv pc (v :: .ref a :: st) := fun H locs ls hP hD hS hl => va_put X.1 X.2.1 X.2.2.2.2.1 hin ty0 hty hnm X.2.2.2.1 X.2.2.2.2.2.1 hP hD hS q0 he hc k hk (X.2.2.2.2.1 _ hm) (fun _ h9 => h9) hfin hd hn hfit hl' hdg (fun H1 locs1 hP1 hD1 hS1 => kk H1 locs1 ls (hws ▸ hP1) (hws ▸ hD1) hS1 hl)
theorem gg_putN (X : gx p s m args c cc nL own Ts D cl tys A) {C : String} {T : u_T} {N ci index : Nat} {a : Nat} {host : String} (hdg : decode cc pc = .ok (.putfield index, 3)) (hin : ∀ w ∈ u_ws C T N, w ∈ Ts) (ty0 : Nat → FieldType) (hty : ∀ k, k < N → parseFieldDescriptor (T k).2.2.1 = some (ty0 k)) (hnm : ∀ a, a < N → ∀ b, b < N → a ≠ b → (T a).2.1 ≠ (T b).2.1) (q0 : Nat) {fs : List Value} (he : ws[q0]? = some (a, .inr (ci, fs))) (hc : cl[ci]? = some (C, T, N)) (k : Nat) (hk : k < N) (hm : va_Nw (.fieldLinkNest own index (T k).1 (T k).2.1 (T k).2.2.1 host) s) {ws' : va_W} (hfin : (T k).2.2.2 = false) {ty : FieldType} {v : Value} (hd : parseFieldDescriptor (T k).2.2.1 = some ty) (hn : narrow ty v = v) (hfit : fits ty v = true) (hl' : k < fs.length) (hws : ws.set q0 (a, .inr (ci, fs.set k v)) = ws') (kk : gg p l e R s m args below meth c cells slots Q D cl A nL ws' lv (pc + 3) st) : gg p l e R s m args below meth c cells slots Q D cl A nL ws lv pc (v :: .ref a :: st) := fun H locs ls hP hD hS hl => va_putN X.1 X.2.1 X.2.2.2.2.1 hin ty0 hty hnm X.2.2.2.1 X.2.2.2.2.2.1 hP hD hS q0 he hc k hk (va_Nw.use rfl hm) (fun _ h9 => h9) hfin hd hn hfit hl' hdg (fun H1 locs1 hP1 hD1 hS1 => kk H1 locs1 ls (hws ▸ hP1) (hws ▸ hD1) hS1 hl)
theorem gg_putF (X : gx p s m args c cc nL own Ts D cl tys A) {C : String} {T : u_T} {N ci index : Nat} {a : Nat} (hdg : decode cc pc = .ok (.putfield index, 3)) (hin : ∀ w ∈ u_ws C T N, w ∈ Ts) (ty0 : Nat → FieldType) (hty : ∀ k, k < N → parseFieldDescriptor (T k).2.2.1 = some (ty0 k)) (hnm : ∀ a, a < N → ∀ b, b < N → a ≠ b → (T a).2.1 ≠ (T b).2.1) (q0 : Nat) {fs : List Value} (he : ws[q0]? = some (a, .inr (ci, fs))) (hc : cl[ci]? = some (C, T, N)) (k : Nat) (hk : k < N) (hm : Cond.fieldLink own index (T k).1 (T k).2.1 (T k).2.2.1 ∈ Ts) (hin2 : meth.name = "<init>") (hdecl : (T k).1 = own) {ws' : va_W} (hfin : (T k).2.2.2 = true) {ty : FieldType} {v : Value} (hd : parseFieldDescriptor (T k).2.2.1 = some ty) (hn : narrow ty v = v) (hfit : fits ty v = true) (hl' : k < fs.length) (hws : ws.set q0 (a, .inr (ci, fs.set k v)) = ws') (kk : gg p l e R s m args below meth c cells slots Q D cl A nL ws' lv (pc + 3) st) : gg p l e R s m args below meth c cells slots Q D cl A nL ws lv pc (v :: .ref a :: st) := fun H locs ls hP hD hS hl => va_putF X.1 X.2.1 X.2.2.2.2.1 hin ty0 hty hnm X.2.2.2.1 X.2.2.2.2.2.1 hP hD hS q0 he hc k hk (X.2.2.2.2.1 _ hm) (fun _ h9 => h9) hfin hin2 hdecl hd hn hfit hl' hdg (fun H1 locs1 hP1 hD1 hS1 => kk H1 locs1 ls (hws ▸ hP1) (hws ▸ hD1) hS1 hl)
theorem gg_iald (X : gx p s m args c cc nL own Ts D cl tys A) {a : Nat} (hdg : decode cc pc = .ok (.iaload, 1)) (q0 t0 : Nat) {cA : ClassId} {n : Nat} {f : Nat → Int32} (ha : ws[q0]? = some (a, .inl (cA, n, .inl f))) (ht : tys[t0]? = some (cA, .int)) {i : Int32} (j : Nat) (hi : i = nI j) (hj : j < n) (hn : n < 2147483648) (k : gg p l e R s m args below meth c cells slots Q D cl A nL ws lv (pc + 1) (.int (f j) :: st)) : gg p l e R s m args below meth c cells slots Q D cl A nL ws lv pc (.int i :: .ref a :: st) := by
  intro H locs ls hP hD hS hl
  subst hi
  refine va_iald X.1 X.2.1 X.2.2.2.2.2.1 hP q0 t0 ha ht (gg_in hj hn) hdg ?_
  rw [nI_clamp (by omega)]
  exact k H locs ls hP hD hS hl
theorem gg_bald (X : gx p s m args c cc nL own Ts D cl tys A) {a : Nat} (hdg : decode cc pc = .ok (.baload, 1)) (q0 t0 : Nat) {cA : ClassId} {n : Nat} {f : Nat → Int32} (ha : ws[q0]? = some (a, .inl (cA, n, .inl f))) (ht : tys[t0]? = some (cA, .byte)) {i : Int32} (j : Nat) (hi : i = nI j) (hj : j < n) (hn : n < 2147483648) (k : gg p l e R s m args below meth c cells slots Q D cl A nL ws lv (pc + 1) (.int (f j) :: st)) : gg p l e R s m args below meth c cells slots Q D cl A nL ws lv pc (.int i :: .ref a :: st) := by
  intro H locs ls hP hD hS hl
  subst hi
  refine va_bald X.1 X.2.1 X.2.2.2.2.2.1 hP q0 t0 ha ht (gg_in hj hn) hdg ?_
  rw [nI_clamp (by omega)]
  exact k H locs ls hP hD hS hl
theorem gg_zald (X : gx p s m args c cc nL own Ts D cl tys A) {a : Nat} (hdg : decode cc pc = .ok (.baload, 1)) (q0 t0 : Nat) {cA : ClassId} {n : Nat} {f : Nat → Int32} (ha : ws[q0]? = some (a, .inl (cA, n, .inl f))) (ht : tys[t0]? = some (cA, .boolean)) {i : Int32} (j : Nat) (hi : i = nI j) (hj : j < n) (hn : n < 2147483648) (k : gg p l e R s m args below meth c cells slots Q D cl A nL ws lv (pc + 1) (.int (f j) :: st)) : gg p l e R s m args below meth c cells slots Q D cl A nL ws lv pc (.int i :: .ref a :: st) := by
  intro H locs ls hP hD hS hl
  subst hi
  refine va_zald X.1 X.2.1 X.2.2.2.2.2.1 hP q0 t0 ha ht (gg_in hj hn) hdg ?_
  rw [nI_clamp (by omega)]
  exact k H locs ls hP hD hS hl
theorem gg_lald (X : gx p s m args c cc nL own Ts D cl tys A) {a : Nat} (hdg : decode cc pc = .ok (.laload, 1)) (q0 t0 : Nat) {cA : ClassId} {n : Nat} {f : Nat → Int64} (ha : ws[q0]? = some (a, .inl (cA, n, .inr (.inl f)))) (ht : tys[t0]? = some (cA, .long)) {i : Int32} (j : Nat) (hi : i = nI j) (hj : j < n) (hn : n < 2147483648) (k : gg p l e R s m args below meth c cells slots Q D cl A nL ws lv (pc + 1) (.long (f j) :: st)) : gg p l e R s m args below meth c cells slots Q D cl A nL ws lv pc (.int i :: .ref a :: st) := by
  intro H locs ls hP hD hS hl
  subst hi
  refine va_lald X.1 X.2.1 X.2.2.2.2.2.1 hP q0 t0 ha ht (gg_in hj hn) hdg ?_
  rw [nI_clamp (by omega)]
  exact k H locs ls hP hD hS hl
theorem gg_aldq (X : gx p s m args c cc nL own Ts D cl tys A) {a : Nat} (hdg : decode cc pc = .ok (.aaload, 1)) (q0 t0 : Nat) {cA : ClassId} {Cn : String} {n : Nat} {f : Nat → Option Nat} (ha : ws[q0]? = some (a, .inl (cA, n, .inr (.inr (.inr (.inr f)))))) (ht : tys[t0]? = some (cA, .object Cn)) {i : Int32} (j : Nat) (hi : i = nI j) (hj : j < n) (hn : n < 2147483648) {r : Option Nat} (hr : f j = r) (k : gg p l e R s m args below meth c cells slots Q D cl A nL ws lv (pc + 1) (va_rf r :: st)) : gg p l e R s m args below meth c cells slots Q D cl A nL ws lv pc (.int i :: .ref a :: st) := by
  intro H locs ls hP hD hS hl
  subst hi
  subst hr
  refine va_aldq X.1 X.2.1 X.2.2.2.2.2.1 hP q0 t0 ha ht (gg_in hj hn) hdg ?_
  rw [nI_clamp (by omega)]
  exact k H locs ls hP hD hS hl
theorem gg_iast (X : gx p s m args c cc nL own Ts D cl tys A) {a : Nat} {ws' : va_W} (hdg : decode cc pc = .ok (.iastore, 1)) (q0 t0 : Nat) {cA : ClassId} {n : Nat} {f : Nat → Int32} (ha : ws[q0]? = some (a, .inl (cA, n, .inl f))) (ht : tys[t0]? = some (cA, .int)) {i : Int32} {x : Int32} (j : Nat) (hi : i = nI j) (hj : j < n) (hn : n < 2147483648) (hws : ws.set q0 (a, .inl (cA, n, .inl (upd f j x))) = ws') (k : gg p l e R s m args below meth c cells slots Q D cl A nL ws' lv (pc + 1) st) : gg p l e R s m args below meth c cells slots Q D cl A nL ws lv pc (.int x :: .int i :: .ref a :: st) := by
  intro H locs ls hP hD hS hl
  subst hi
  refine va_iast X.1 X.2.1 X.2.2.2.2.2.1 hP hD hS q0 t0 ha ht (gg_in hj hn) hdg (fun H1 locs1 hP1 hD1 hS1 => ?_)
  rw [nI_clamp (by omega)] at hP1 hD1
  exact k H1 locs1 ls (hws ▸ hP1) (hws ▸ hD1) hS1 hl
theorem gg_bast (X : gx p s m args c cc nL own Ts D cl tys A) {a : Nat} {ws' : va_W} (hdg : decode cc pc = .ok (.bastore, 1)) (q0 t0 : Nat) {cA : ClassId} {n : Nat} {f : Nat → Int32} (ha : ws[q0]? = some (a, .inl (cA, n, .inl f))) (ht : tys[t0]? = some (cA, .byte)) {i : Int32} {x : Int32} (j : Nat) (hi : i = nI j) (hj : j < n) (hn : n < 2147483648) (hx : vp_nar .byte x = x) (hws : ws.set q0 (a, .inl (cA, n, .inl (upd f j x))) = ws') (k : gg p l e R s m args below meth c cells slots Q D cl A nL ws' lv (pc + 1) st) : gg p l e R s m args below meth c cells slots Q D cl A nL ws lv pc (.int x :: .int i :: .ref a :: st) := by
  intro H locs ls hP hD hS hl
  subst hi
  refine va_bast X.1 X.2.1 X.2.2.2.2.2.1 hP hD hS q0 t0 ha ht (gg_in hj hn) hdg (fun H1 locs1 hP1 hD1 hS1 => ?_)
  rw [nI_clamp (by omega)] at hP1 hD1
  rw [hx] at hP1 hD1
  exact k H1 locs1 ls (hws ▸ hP1) (hws ▸ hD1) hS1 hl
theorem gg_zast (X : gx p s m args c cc nL own Ts D cl tys A) {a : Nat} {ws' : va_W} (hdg : decode cc pc = .ok (.bastore, 1)) (q0 t0 : Nat) {cA : ClassId} {n : Nat} {f : Nat → Int32} (ha : ws[q0]? = some (a, .inl (cA, n, .inl f))) (ht : tys[t0]? = some (cA, .boolean)) {i : Int32} {x : Int32} (j : Nat) (hi : i = nI j) (hj : j < n) (hn : n < 2147483648) (hx : vp_nar .boolean x = x) (hws : ws.set q0 (a, .inl (cA, n, .inl (upd f j x))) = ws') (k : gg p l e R s m args below meth c cells slots Q D cl A nL ws' lv (pc + 1) st) : gg p l e R s m args below meth c cells slots Q D cl A nL ws lv pc (.int x :: .int i :: .ref a :: st) := by
  intro H locs ls hP hD hS hl
  subst hi
  refine va_zast X.1 X.2.1 X.2.2.2.2.2.1 hP hD hS q0 t0 ha ht (gg_in hj hn) hdg (fun H1 locs1 hP1 hD1 hS1 => ?_)
  rw [nI_clamp (by omega)] at hP1 hD1
  rw [hx] at hP1 hD1
  exact k H1 locs1 ls (hws ▸ hP1) (hws ▸ hD1) hS1 hl
theorem gg_last (X : gx p s m args c cc nL own Ts D cl tys A) {a : Nat} {ws' : va_W} (hdg : decode cc pc = .ok (.lastore, 1)) (q0 t0 : Nat) {cA : ClassId} {n : Nat} {f : Nat → Int64} (ha : ws[q0]? = some (a, .inl (cA, n, .inr (.inl f)))) (ht : tys[t0]? = some (cA, .long)) {i : Int32} {x : Int64} (j : Nat) (hi : i = nI j) (hj : j < n) (hn : n < 2147483648) (hws : ws.set q0 (a, .inl (cA, n, .inr (.inl (vp_updL f j x)))) = ws') (k : gg p l e R s m args below meth c cells slots Q D cl A nL ws' lv (pc + 1) st) : gg p l e R s m args below meth c cells slots Q D cl A nL ws lv pc (.long x :: .int i :: .ref a :: st) := by
  intro H locs ls hP hD hS hl
  subst hi
  refine va_last X.1 X.2.1 X.2.2.2.2.2.1 hP hD hS q0 t0 ha ht (gg_in hj hn) hdg (fun H1 locs1 hP1 hD1 hS1 => ?_)
  rw [nI_clamp (by omega)] at hP1 hD1
  exact k H1 locs1 ls (hws ▸ hP1) (hws ▸ hD1) hS1 hl
theorem gg_astq (X : gx p s m args c cc nL own Ts D cl tys A) {a v : Nat} {ws' : va_W} (hdg : decode cc pc = .ok (.aastore, 1)) (q0 t0 qk ci : Nat) {cA : ClassId} {r : vw_C} {n : Nat} {vs : List Value} {f : Nat → Option Nat} (ha : ws[q0]? = some (a, .inl (cA, n, .inr (.inr (.inr (.inr f)))))) (ht : tys[t0]? = some (cA, .object r.1)) (hv : ws[qk]? = some (v, .inr (ci, vs))) (hc : cl[ci]? = some r) {i : Int32} (j : Nat) (hi : i = nI j) (hj : j < n) (hn : n < 2147483648) (hws : ws.set q0 (a, .inl (cA, n, .inr (.inr (.inr (.inr (va_up f j (some v))))))) = ws') (k : gg p l e R s m args below meth c cells slots Q D cl A nL ws' lv (pc + 1) st) : gg p l e R s m args below meth c cells slots Q D cl A nL ws lv pc (.ref v :: .int i :: .ref a :: st) := by
  intro H locs ls hP hD hS hl
  subst hi
  refine va_astq X.1 X.2.1 X.2.2.2.2.2.1 hP hD hS q0 t0 qk ci ha ht hv hc (gg_in hj hn) hdg (fun H1 locs1 hP1 hD1 hS1 => ?_)
  rw [nI_clamp (by omega)] at hP1 hD1
  exact k H1 locs1 ls (hws ▸ hP1) (hws ▸ hD1) hS1 hl
theorem gg_alen (X : gx p s m args c cc nL own Ts D cl tys A) {a : Nat} (hdg : decode cc pc = .ok (.arraylength, 1)) (q0 t0 : Nat) {cA : ClassId} {x : vp_A} (ha : ws[q0]? = some (a, .inl (cA, x))) {ty : FieldType} (ht : tys[t0]? = some (cA, ty)) {v : Int32} (hv : nI x.1 = v) (k : gg p l e R s m args below meth c cells slots Q D cl A nL ws lv (pc + 1) (.int v :: st)) : gg p l e R s m args below meth c cells slots Q D cl A nL ws lv pc (.ref a :: st) := fun H locs ls hP hD hS hl => va_alen X.1 X.2.1 X.2.2.2.2.2.1 hP q0 t0 ha ht hv hdg (k H locs ls hP hD hS hl)
theorem gg_newa (X : gx p s m args c cc nL own Ts D cl tys A) {atype : ArrayType} (hdg : decode cc pc = .ok (.newarray atype, 2)) {ty : FieldType} (hty : newarray.typeOf atype = ty) (hprim : ∀ Cn, ty ≠ .object Cn) (harr : Cond.arrayClass ty ∈ Ts) (t0 : Nat) {cA : ClassId} (ht : tys[t0]? = some (cA, ty)) {n : Int32} (N' : Nat) {a0 : vp_A} (ha : ∀ cA : ClassId, vp_cell cA a0 = arrV cA N' (fun _ => defaultValue ty)) (hnN : n = nI N') (hN : N' < 2147483648) (hbytes : N' * componentBytes ty ≤ 536870912) (hcells : cells + 1 ≤ R.cells) (hslots : slots + N' ≤ R.slots) (k : ∀ q : Nat, gg p l e R s m args below meth c (cells + 1) (slots + N') Q D cl A nL (ws ++ [(q, .inl (cA, a0))]) lv (pc + 2) (.ref q :: st)) : gg p l e R s m args below meth c cells slots Q D cl A nL ws lv pc (.int n :: st) := by
  intro H locs ls hP hD hS hl
  subst hty
  subst hnN
  refine va_newa X.1 X.2.1 (X.2.2.2.2.1 _ harr) rfl X.2.2.2.2.2.1 hP hD hS X.2.2.2.2.2.2.1 ha (nI_pos (by omega)) (nI_clamp (by omega)) hbytes hcells hslots hdg (fun q cB H1 hK1 hP1 hD1 hS1 => ?_)
  have e1 := (X.2.2.2.2.2.1.2 t0 _ ht).2
  have e2 := (hK1.2 tys.length (cB, newarray.typeOf atype) (by simp)).2
  have e3 : cB = cA := by
    revert hprim e1 e2
    cases atype <;> (intro _ h1 h2; exact Option.some.inj (Eq.trans (Eq.symm (show s.vm.findClass _ = some cB from h2)) (show s.vm.findClass _ = some cA from h1)))
  subst e3
  exact k q H1 locs ls hP1 hD1 hS1 hl
theorem gg_newq (X : gx p s m args c cc nL own Ts D cl tys A) {Cn : String} {index : Nat} (hdg : decode cc pc = .ok (.anewarray index, 3)) (hcl : Cond.classLink own index Cn ∈ Ts) (hao : va_AO Cn s) (t0 : Nat) {cA : ClassId} (ht : tys[t0]? = some (cA, .object Cn)) {n : Int32} (N' : Nat) (hnN : n = nI N') (hN : N' < 2147483648) (hbytes : N' * 4 ≤ 536870912) (hcells : cells + 1 ≤ R.cells) (hslots : slots + N' ≤ R.slots) (k : ∀ q : Nat, gg p l e R s m args below meth c (cells + 1) (slots + N') Q D cl A nL (ws ++ [(q, .inl (cA, N', .inr (.inr (.inr (.inr (fun _ => none))))))]) lv (pc + 3) (.ref q :: st)) : gg p l e R s m args below meth c cells slots Q D cl A nL ws lv pc (.int n :: st) := by
  intro H locs ls hP hD hS hl
  subst hnN
  refine va_newq X.1 X.2.1 X.2.2.2.1 (X.2.2.2.2.1 _ hcl) hao X.2.2.2.2.2.1 hP hD hS X.2.2.2.2.2.2.1 (nI_pos (by omega)) (nI_clamp (by omega)) hbytes hcells hslots hdg (fun q cB H1 hK1 hP1 hD1 hS1 => ?_)
  obtain ⟨_, _, -, -, -, e1⟩ := (X.2.2.2.2.2.1.2 t0 _ ht).2
  obtain ⟨_, _, -, -, -, e2⟩ := (hK1.2 tys.length (cB, .object Cn) (by simp)).2
  have e3 : cB = cA := Option.some.inj (e2.symm.trans e1)
  subst e3
  exact k q H1 locs ls hP1 hD1 hS1 hl
theorem gg_new (X : gx p s m args c cc nL own Ts D cl tys A) {C : String} {T : u_T} {N' ci index : Nat} (hdg : decode cc pc = .ok (.new index, 3)) (hin : ∀ w ∈ u_ws C T N', w ∈ Ts) (ty : Nat → FieldType) (hty : ∀ k, k < N' → parseFieldDescriptor (T k).2.2.1 = some (ty k)) (hcl : Cond.classLink own index C ∈ Ts) (hinst : Cond.instantiable C N' ∈ Ts) (hini : Cond.initialized C ∈ Ts) (hc : cl[ci]? = some (C, T, N')) {fs : List Value} (hfs : ∀ j, j < N' → defaultValue (ty j) = vp_V fs j) (hcells : cells + 1 ≤ R.cells) (hslots : slots + N' ≤ R.slots) (k : ∀ q : Nat, gg p l e R s m args below meth c (cells + 1) (slots + N') Q D cl A nL (ws ++ [(q, .inr (ci, fs))]) lv (pc + 3) (.ref q :: st)) : gg p l e R s m args below meth c cells slots Q D cl A nL ws lv pc st := fun H locs ls hP hD hS hl => va_new X.1 X.2.1 X.2.2.2.2.1 hin ty hty X.2.2.2.1 (X.2.2.2.2.1 _ hcl) (X.2.2.2.2.1 _ hinst) (X.2.2.2.2.1 _ hini) X.2.2.2.2.2.1 hP hD hS X.2.2.2.2.2.2.1 hc hfs hcells hslots hdg (fun q H1 hP1 hD1 hS1 => k q H1 locs ls hP1 hD1 hS1 hl)
theorem gg_objInit (X : gx p s m args c cc nL own Ts D cl tys A) {idx a : Nat} (hdg : decode cc pc = .ok (.invokespecial idx, 3)) (h1 : Cond.methodLink own idx objectInit ∈ Ts) (h2 : Cond.instanceMethod objectInit ∈ Ts) (h3 : Cond.code objectInit ⟨#[0xb1]⟩ 1 none ∈ Ts) (hf : 1 ≤ R.frames) (hlo : (st.map fun v => v.category).sum + 12 ≤ R.locals) (k : gg p l e R s m args below meth c cells slots Q D cl A nL ws lv (pc + 3) st) : gg p l e R s m args below meth c cells slots Q D cl A nL ws lv pc (.ref a :: st) := by
  intro H locs ls hP hD hS hl
  refine W.objInit X.1 X.2.1 X.2.2.2.1 (X.2.2.2.2.1 _ h1) (X.2.2.2.2.1 _ h2) (X.2.2.2.2.1 _ h3) rfl (by rw [X.2.2.1]; exact hl.1) rfl hdg hf ?_ ?_
  · have h9 : (F0 m pc ls (.ref a :: st)).monitorRoom = 0 := rfl
    rw [h9]
    omega
  · exact k H locs ls hP hD hS hl
theorem gg_iret (X : gx p s m args c cc nL own Ts D cl tys A) {S : Type} {wo : S → va_W} {k n : Nat} {post : Int32 → S → Prop} {v : Int32} (hdg : decode cc pc = .ok (.ireturn, 1)) (hr : meth.sig.returnType = some .int) (hk : meth.locks = false) (u : S) (hu : post v u) (hw : ws = wo u) (h1 : cells ≤ k) (h2 : slots ≤ n) : gg p l e R s m args below meth c cells slots (MQ below (qI D cl post wo A) args s k n A) D cl A nL ws lv pc [.int v] := by
  intro H locs ls hP hD hS hl
  subst hw
  refine W.widen h1 h2 ?_
  exact W.iret X.1 X.2.1 hr (fun t ht hW => ⟨⟨v, u, rfl, hu, by rw [ht]; exact hP, hD⟩, hS.F ht⟩) hS.2.2 hdg (hlocks := hk)
theorem gg_zret (X : gx p s m args c cc nL own Ts D cl tys A) {S : Type} {wo : S → va_W} {k n : Nat} {post : Int32 → S → Prop} {v : Int32} (hdg : decode cc pc = .ok (.ireturn, 1)) (hr : meth.sig.returnType = some .boolean) (hk : meth.locks = false) (hn : narrow .boolean (.int v) = .int v) (u : S) (hu : post v u) (hw : ws = wo u) (h1 : cells ≤ k) (h2 : slots ≤ n) : gg p l e R s m args below meth c cells slots (MQ below (qI D cl post wo A) args s k n A) D cl A nL ws lv pc [.int v] := by
  intro H locs ls hP hD hS hl
  subst hw
  refine W.widen h1 h2 ?_
  exact W.zret X.1 X.2.1 hr hn (fun t ht hW => ⟨⟨v, u, rfl, hu, by rw [ht]; exact hP, hD⟩, hS.F ht⟩) hS.2.2 hdg (hlocks := hk)
theorem gg_lret (X : gx p s m args c cc nL own Ts D cl tys A) {S : Type} {wo : S → va_W} {k n : Nat} {post : Int64 → S → Prop} {v : Int64} (hdg : decode cc pc = .ok (.lreturn, 1)) (hr : meth.sig.returnType = some .long) (hk : meth.locks = false) (u : S) (hu : post v u) (hw : ws = wo u) (h1 : cells ≤ k) (h2 : slots ≤ n) : gg p l e R s m args below meth c cells slots (MQ below (qL D cl post wo A) args s k n A) D cl A nL ws lv pc [.long v] := by
  intro H locs ls hP hD hS hl
  subst hw
  refine W.widen h1 h2 ?_
  exact W.lret X.1 X.2.1 hr (fun t ht hW => ⟨⟨v, u, rfl, hu, by rw [ht]; exact hP, hD⟩, hS.F ht⟩) hS.2.2 hdg (hlocks := hk)
theorem gg_vret (X : gx p s m args c cc nL own Ts D cl tys A) {S : Type} {wo : S → va_W} {k n : Nat} {post : S → Prop} (hdg : decode cc pc = .ok (.return_, 1)) (hr : meth.sig.returnType = none) (hk : meth.locks = false) (u : S) (hu : post u) (hw : ws = wo u) (h1 : cells ≤ k) (h2 : slots ≤ n) : gg p l e R s m args below meth c cells slots (MQ below (qV D cl post wo A) args s k n A) D cl A nL ws lv pc [] := by
  intro H locs ls hP hD hS hl
  subst hw
  refine W.widen h1 h2 ?_
  exact W.vret X.1 X.2.1 hr (fun t ht hW => ⟨⟨u, rfl, hu, by rw [ht]; exact hP, hD⟩, hS.F ht⟩) hS.2.2 hdg (hlocks := hk)
theorem gg_aret (X : gx p s m args c cc nL own Ts D cl tys A) {S : Type} {wo : S → va_W} {k n : Nat} {post : Option Nat → S → Prop} {r : Option Nat} {cn : String} (hdg : decode cc pc = .ok (.areturn, 1)) (hr : meth.sig.returnType = some (.object cn)) (hk : meth.locks = false) (u : S) (hu : post r u) (hw : ws = wo u) (h1 : cells ≤ k) (h2 : slots ≤ n) : gg p l e R s m args below meth c cells slots (MQ below (qQ D cl post wo A) args s k n A) D cl A nL ws lv pc [va_rf r] := by
  intro H locs ls hP hD hS hl
  subst hw
  refine W.widen h1 h2 ?_
  exact W.aret X.1 X.2.1 hr (Or.inl ⟨cn, rfl⟩) (va_rf_or r) (fun t ht hW => ⟨⟨r, u, rfl, hu, by rw [ht]; exact hP, hD⟩, hS.F ht⟩) hS.2.2 hdg (hlocks := hk)
end GG
section GR
variable {p : Program} {l : Launch} {e : Env} {R : Room} {s : State} {m : MethodId} {args : Array Value} {below : List Frame} {meth : Method} {c : Code} {cells slots : Nat} {Q : State → Prop}
variable {cc : ByteArray} {nL : Nat} {own : String} {Ts : List Cond} {D : va_G} {cl : List vw_C} {tys : List (ClassId × FieldType)} {A : Nat → Prop} {ws : va_W} {lv : List (Nat × Value)} {pc : Nat} {st : List Value}

variable {y : MethodName} {wds : List Cond} {rm : Room} {As rest : List Value} {QQ : (Nat → Prop) → Array Value → State → Outcome → State → Prop} {wc : va_W} {tyc : List (ClassId × FieldType)} {bytes : ByteArray} {maxL n index b : Nat} {ret : Option FieldType} {C host : String}
theorem gr_V (X : gx p s m args c cc nL own Ts D cl tys A) (hdg : decode cc pc = .ok (.invokevirtual index, 3)) (hK : va_K D cl tyc s) (hM : mG l y wds rm D cl tyc (.ref b :: As) wc QQ) (cw : CallW R s args own C index y bytes maxL ret wds rm rm.cells rm.slots n) {q0 ci : Nat} {r : vw_C} {fs : List Value} (he : wc[q0]? = some (b, .inr (ci, fs))) (hc : cl[ci]? = some r) (hC : r.1 = C) (hn : As.length = n) (hst : st = As.reverse ++ .ref b :: rest) (hroom : (rest.map fun v => v.category).sum ≤ 8) (hf : cells + rm.cells ≤ R.cells ∧ slots + rm.slots ≤ R.slots) : ∀ (H : Heap) (locs : List Loc) (ls : Array Slot), va_P D cl wc H → va_D A wc → lv_has ls nL lv → va_Run p l e R s m args below meth c H locs cells slots rm.cells rm.slots (F0 m pc ls st) rest (QQ (va_A wc H.size) (Value.ref b :: As).toArray) (va_A wc H.size) := by
  intro H locs ls hP hD hl
  subst hst
  subst hC
  exact va_runV ⟨X.1, X.2.1, X.2.2.1, X.2.2.2.1, X.2.2.2.2.1⟩ (hM H.size) cw ⟨gP_blind, va_recv hK hP hc he, gP_at hK X.2.2.2.2.2.2.2 hP hD⟩ rfl hn hl.1 rfl (lv_room hroom) hdg hf
theorem gr_VN (X : gx p s m args c cc nL own Ts D cl tys A) (hdg : decode cc pc = .ok (.invokevirtual index, 3)) (hK : va_K D cl tyc s) (hM : mG l y wds rm D cl tyc (.ref b :: As) wc QQ) (cw : va_CN R s args own index y host bytes maxL ret wds rm rm.cells rm.slots n ∧ (Cond.instanceMethod y).before args s = true ∧ (Cond.selects C y y).before args s = true) {q0 ci : Nat} {r : vw_C} {fs : List Value} (he : wc[q0]? = some (b, .inr (ci, fs))) (hc : cl[ci]? = some r) (hC : r.1 = C) (hn : As.length = n) (hst : st = As.reverse ++ .ref b :: rest) (hroom : (rest.map fun v => v.category).sum ≤ 8) (hf : cells + rm.cells ≤ R.cells ∧ slots + rm.slots ≤ R.slots) : ∀ (H : Heap) (locs : List Loc) (ls : Array Slot), va_P D cl wc H → va_D A wc → lv_has ls nL lv → va_Run p l e R s m args below meth c H locs cells slots rm.cells rm.slots (F0 m pc ls st) rest (QQ (va_A wc H.size) (Value.ref b :: As).toArray) (va_A wc H.size) := by
  intro H locs ls hP hD hl
  subst hst
  subst hC
  exact va_runVN ⟨X.1, X.2.1, X.2.2.1, X.2.2.2.1, X.2.2.2.2.1⟩ (hM H.size) cw ⟨gP_blind, va_recv hK hP hc he, gP_at hK X.2.2.2.2.2.2.2 hP hD⟩ rfl hn hl.1 rfl (lv_room hroom) hdg hf
theorem gr_S (X : gx p s m args c cc nL own Ts D cl tys A) (hdg : decode cc pc = .ok (.invokestatic index, 3)) (hK : va_K D cl tyc s) (hM : mG l y wds rm D cl tyc As wc QQ) (cw : CallB R s args own index y bytes maxL ret wds rm rm.cells rm.slots n ∧ (Cond.static y).before args s = true) (hn : As.length = n) (hst : st = As.reverse ++ rest) (hroom : (rest.map fun v => v.category).sum ≤ 8) (hf : cells + rm.cells ≤ R.cells ∧ slots + rm.slots ≤ R.slots) : ∀ (H : Heap) (locs : List Loc) (ls : Array Slot), va_P D cl wc H → va_D A wc → lv_has ls nL lv → va_Run p l e R s m args below meth c H locs cells slots rm.cells rm.slots (F0 m pc ls st) rest (QQ (va_A wc H.size) As.toArray) (va_A wc H.size) := by
  intro H locs ls hP hD hl
  subst hst
  exact va_runS ⟨X.1, X.2.1, X.2.2.1, X.2.2.2.1, X.2.2.2.2.1⟩ (hM H.size) cw ⟨gP_blind, gP_at hK X.2.2.2.2.2.2.2 hP hD⟩ rfl hn hl.1 rfl (lv_room hroom) hdg hf
theorem gr_SN (X : gx p s m args c cc nL own Ts D cl tys A) (hdg : decode cc pc = .ok (.invokestatic index, 3)) (hK : va_K D cl tyc s) (hM : mG l y wds rm D cl tyc As wc QQ) (cw : va_CN R s args own index y host bytes maxL ret wds rm rm.cells rm.slots n ∧ (Cond.static y).before args s = true ∧ True) (hn : As.length = n) (hst : st = As.reverse ++ rest) (hroom : (rest.map fun v => v.category).sum ≤ 8) (hf : cells + rm.cells ≤ R.cells ∧ slots + rm.slots ≤ R.slots) : ∀ (H : Heap) (locs : List Loc) (ls : Array Slot), va_P D cl wc H → va_D A wc → lv_has ls nL lv → va_Run p l e R s m args below meth c H locs cells slots rm.cells rm.slots (F0 m pc ls st) rest (QQ (va_A wc H.size) As.toArray) (va_A wc H.size) := by
  intro H locs ls hP hD hl
  subst hst
  exact va_runSN ⟨X.1, X.2.1, X.2.2.1, X.2.2.2.1, X.2.2.2.2.1⟩ (hM H.size) cw ⟨gP_blind, gP_at hK X.2.2.2.2.2.2.2 hP hD⟩ rfl hn hl.1 rfl (lv_room hroom) hdg hf
theorem gr_I (X : gx p s m args c cc nL own Ts D cl tys A) (hdg : decode cc pc = .ok (.invokespecial index, 3)) (hK : va_K D cl tyc s) (hM : mG l y wds rm D cl tyc (.ref b :: As) wc QQ) (cw : CallB R s args own index y bytes maxL none wds rm rm.cells rm.slots n ∧ y.name = "<init>" ∧ (Cond.instanceMethod y).before args s = true) (hn : As.length = n) (hst : st = As.reverse ++ .ref b :: rest) (hroom : (rest.map fun v => v.category).sum ≤ 8) (hf : cells + rm.cells ≤ R.cells ∧ slots + rm.slots ≤ R.slots) : ∀ (H : Heap) (locs : List Loc) (ls : Array Slot), va_P D cl wc H → va_D A wc → lv_has ls nL lv → va_Run p l e R s m args below meth c H locs cells slots rm.cells rm.slots (F0 m pc ls st) rest (QQ (va_A wc H.size) (Value.ref b :: As).toArray) (va_A wc H.size) := by
  intro H locs ls hP hD hl
  subst hst
  exact va_runI ⟨X.1, X.2.1, X.2.2.1, X.2.2.2.1, X.2.2.2.2.1⟩ (hM H.size) cw ⟨gP_blind, gP_at hK X.2.2.2.2.2.2.2 hP hD⟩ rfl hn hl.1 rfl (lv_room hroom) hdg hf
theorem gr_IN (X : gx p s m args c cc nL own Ts D cl tys A) (hdg : decode cc pc = .ok (.invokespecial index, 3)) (hK : va_K D cl tyc s) (hM : mG l y wds rm D cl tyc (.ref b :: As) wc QQ) (cw : va_CN R s args own index y host bytes maxL none wds rm rm.cells rm.slots n ∧ y.name = "<init>" ∧ (Cond.instanceMethod y).before args s = true) (hn : As.length = n) (hst : st = As.reverse ++ .ref b :: rest) (hroom : (rest.map fun v => v.category).sum ≤ 8) (hf : cells + rm.cells ≤ R.cells ∧ slots + rm.slots ≤ R.slots) : ∀ (H : Heap) (locs : List Loc) (ls : Array Slot), va_P D cl wc H → va_D A wc → lv_has ls nL lv → va_Run p l e R s m args below meth c H locs cells slots rm.cells rm.slots (F0 m pc ls st) rest (QQ (va_A wc H.size) (Value.ref b :: As).toArray) (va_A wc H.size) := by
  intro H locs ls hP hD hl
  subst hst
  exact va_runIN ⟨X.1, X.2.1, X.2.2.1, X.2.2.2.1, X.2.2.2.2.1⟩ (hM H.size) cw ⟨gP_blind, gP_at hK X.2.2.2.2.2.2.2 hP hD⟩ rfl hn hl.1 rfl (lv_room hroom) hdg hf
end GR
section GC
variable {p : Program} {l : Launch} {e : Env} {R : Room} {s : State} {m : MethodId} {args : Array Value} {below : List Frame} {meth : Method} {c : Code} {cells slots : Nat} {Q : State → Prop}
variable {cc : ByteArray} {nL : Nat} {own : String} {Ts : List Cond} {D : va_G} {cl : List vw_C} {tys : List (ClassId × FieldType)} {A : Nat → Prop} {ws : va_W} {lv : List (Nat × Value)} {pc : Nat} {st : List Value}

variable {S : Type} {wo : S → va_W} {mc ms : Nat} {a : Array Value} {rest : List Value} {wc wr : va_W}
theorem gc_i (X : gx p s m args c cc nL own Ts D cl tys A) {post : Int32 → S → Prop} (hrun : ∀ (H : Heap) (locs : List Loc) (ls : Array Slot), va_P D cl wc H → va_D A wc → lv_has ls nL lv → va_Run p l e R s m args below meth c H locs cells slots mc ms (F0 m pc ls st) rest (qI D cl post wo (va_A wc H.size) a) (va_A wc H.size)) (kk : ∀ r u, post r u → gg p l e R s m args below meth c (cells + mc) (slots + ms) Q D cl A nL (wo u) lv (pc + 3) (.int r :: rest)) : gg p l e R s m args below meth c cells slots Q D cl A nL wc lv pc st := by
  intro H locs ls hP hD hS hl
  have hF : ∀ q, va_A wc H.size q → A q := by
    intro q h
    rcases h with ⟨k, x, h⟩ | h
    · exact hD.2 k _ h
    · exact X.2.2.2.2.2.2.1 q (Nat.le_trans hS.1 h)
  refine va_calli (hrun H locs ls hP hD hl) hS (fun q _ h => hF q h) hF (fun r u t H1 locs1 ht hvm hp hB hz hk hS1 => ?_)
  obtain ⟨hP1, hD1⟩ := hB
  rw [ht] at hP1
  exact kk r u hp H1 locs1 ls hP1 (hD1.weaken (fun k q _ h => hF q.1 h)) hS1 hl
theorem gc_iL (X : gx p s m args c cc nL own Ts D cl tys A) {post : Int32 → S → Prop} (hrun : ∀ (H : Heap) (locs : List Loc) (ls : Array Slot), va_P D cl wc H → va_D A wc → lv_has ls nL lv → va_Run p l e R s m args below meth c H locs cells slots mc ms (F0 m pc ls st) rest (qI D cl post wo (va_A wc H.size) a) (va_A wc H.size)) (kk : ∀ r u, post r u → gg p l e R s m args below meth c (cells + mc) (slots + ms) Q D cl A nL (wo u ++ wr) lv (pc + 3) (.int r :: rest)) : gg p l e R s m args below meth c cells slots Q D cl A nL (wc ++ wr) lv pc st := by
  intro H locs ls hP hD hS hl
  have hF : ∀ q, va_A wc H.size q → A q := by
    intro q h
    rcases h with ⟨k, x, h⟩ | h
    · exact hD.2 _ _ (gj_at1 h)
    · exact X.2.2.2.2.2.2.1 q (Nat.le_trans hS.1 h)
  refine va_calli (hrun H locs ls hP.left hD.left hl) hS (fun q _ h => hF q h) hF (fun r u t H1 locs1 ht hvm hp hB hz hk hS1 => ?_)
  obtain ⟨hP1, hD1⟩ := hB
  rw [ht] at hP1
  obtain ⟨hP2, hD2⟩ := gj_L hP hD hk hF hP1 hD1
  exact kk r u hp H1 locs1 ls hP2 hD2 hS1 hl
theorem gc_iR (X : gx p s m args c cc nL own Ts D cl tys A) {post : Int32 → S → Prop} (hrun : ∀ (H : Heap) (locs : List Loc) (ls : Array Slot), va_P D cl wc H → va_D A wc → lv_has ls nL lv → va_Run p l e R s m args below meth c H locs cells slots mc ms (F0 m pc ls st) rest (qI D cl post wo (va_A wc H.size) a) (va_A wc H.size)) (kk : ∀ r u, post r u → gg p l e R s m args below meth c (cells + mc) (slots + ms) Q D cl A nL (wr ++ wo u) lv (pc + 3) (.int r :: rest)) : gg p l e R s m args below meth c cells slots Q D cl A nL (wr ++ wc) lv pc st := by
  intro H locs ls hP hD hS hl
  have hF : ∀ q, va_A wc H.size q → A q := by
    intro q h
    rcases h with ⟨k, x, h⟩ | h
    · exact hD.2 _ _ (gj_at h)
    · exact X.2.2.2.2.2.2.1 q (Nat.le_trans hS.1 h)
  refine va_calli (hrun H locs ls hP.right hD.right hl) hS (fun q _ h => hF q h) hF (fun r u t H1 locs1 ht hvm hp hB hz hk hS1 => ?_)
  obtain ⟨hP1, hD1⟩ := hB
  rw [ht] at hP1
  obtain ⟨hP2, hD2⟩ := gj_R hP hD hk hF hP1 hD1
  exact kk r u hp H1 locs1 ls hP2 hD2 hS1 hl
theorem gc_l (X : gx p s m args c cc nL own Ts D cl tys A) {post : Int64 → S → Prop} (hrun : ∀ (H : Heap) (locs : List Loc) (ls : Array Slot), va_P D cl wc H → va_D A wc → lv_has ls nL lv → va_Run p l e R s m args below meth c H locs cells slots mc ms (F0 m pc ls st) rest (qL D cl post wo (va_A wc H.size) a) (va_A wc H.size)) (kk : ∀ r u, post r u → gg p l e R s m args below meth c (cells + mc) (slots + ms) Q D cl A nL (wo u) lv (pc + 3) (.long r :: rest)) : gg p l e R s m args below meth c cells slots Q D cl A nL wc lv pc st := by
  intro H locs ls hP hD hS hl
  have hF : ∀ q, va_A wc H.size q → A q := by
    intro q h
    rcases h with ⟨k, x, h⟩ | h
    · exact hD.2 k _ h
    · exact X.2.2.2.2.2.2.1 q (Nat.le_trans hS.1 h)
  refine va_calll (hrun H locs ls hP hD hl) hS (fun q _ h => hF q h) hF (fun r u t H1 locs1 ht hvm hp hB hz hk hS1 => ?_)
  obtain ⟨hP1, hD1⟩ := hB
  rw [ht] at hP1
  exact kk r u hp H1 locs1 ls hP1 (hD1.weaken (fun k q _ h => hF q.1 h)) hS1 hl
theorem gc_lL (X : gx p s m args c cc nL own Ts D cl tys A) {post : Int64 → S → Prop} (hrun : ∀ (H : Heap) (locs : List Loc) (ls : Array Slot), va_P D cl wc H → va_D A wc → lv_has ls nL lv → va_Run p l e R s m args below meth c H locs cells slots mc ms (F0 m pc ls st) rest (qL D cl post wo (va_A wc H.size) a) (va_A wc H.size)) (kk : ∀ r u, post r u → gg p l e R s m args below meth c (cells + mc) (slots + ms) Q D cl A nL (wo u ++ wr) lv (pc + 3) (.long r :: rest)) : gg p l e R s m args below meth c cells slots Q D cl A nL (wc ++ wr) lv pc st := by
  intro H locs ls hP hD hS hl
  have hF : ∀ q, va_A wc H.size q → A q := by
    intro q h
    rcases h with ⟨k, x, h⟩ | h
    · exact hD.2 _ _ (gj_at1 h)
    · exact X.2.2.2.2.2.2.1 q (Nat.le_trans hS.1 h)
  refine va_calll (hrun H locs ls hP.left hD.left hl) hS (fun q _ h => hF q h) hF (fun r u t H1 locs1 ht hvm hp hB hz hk hS1 => ?_)
  obtain ⟨hP1, hD1⟩ := hB
  rw [ht] at hP1
  obtain ⟨hP2, hD2⟩ := gj_L hP hD hk hF hP1 hD1
  exact kk r u hp H1 locs1 ls hP2 hD2 hS1 hl
theorem gc_lR (X : gx p s m args c cc nL own Ts D cl tys A) {post : Int64 → S → Prop} (hrun : ∀ (H : Heap) (locs : List Loc) (ls : Array Slot), va_P D cl wc H → va_D A wc → lv_has ls nL lv → va_Run p l e R s m args below meth c H locs cells slots mc ms (F0 m pc ls st) rest (qL D cl post wo (va_A wc H.size) a) (va_A wc H.size)) (kk : ∀ r u, post r u → gg p l e R s m args below meth c (cells + mc) (slots + ms) Q D cl A nL (wr ++ wo u) lv (pc + 3) (.long r :: rest)) : gg p l e R s m args below meth c cells slots Q D cl A nL (wr ++ wc) lv pc st := by
  intro H locs ls hP hD hS hl
  have hF : ∀ q, va_A wc H.size q → A q := by
    intro q h
    rcases h with ⟨k, x, h⟩ | h
    · exact hD.2 _ _ (gj_at h)
    · exact X.2.2.2.2.2.2.1 q (Nat.le_trans hS.1 h)
  refine va_calll (hrun H locs ls hP.right hD.right hl) hS (fun q _ h => hF q h) hF (fun r u t H1 locs1 ht hvm hp hB hz hk hS1 => ?_)
  obtain ⟨hP1, hD1⟩ := hB
  rw [ht] at hP1
  obtain ⟨hP2, hD2⟩ := gj_R hP hD hk hF hP1 hD1
  exact kk r u hp H1 locs1 ls hP2 hD2 hS1 hl
theorem gc_v (X : gx p s m args c cc nL own Ts D cl tys A) {post : S → Prop} (hrun : ∀ (H : Heap) (locs : List Loc) (ls : Array Slot), va_P D cl wc H → va_D A wc → lv_has ls nL lv → va_Run p l e R s m args below meth c H locs cells slots mc ms (F0 m pc ls st) rest (qV D cl post wo (va_A wc H.size) a) (va_A wc H.size)) (kk : ∀ u, post u → gg p l e R s m args below meth c (cells + mc) (slots + ms) Q D cl A nL (wo u) lv (pc + 3) (rest)) : gg p l e R s m args below meth c cells slots Q D cl A nL wc lv pc st := by
  intro H locs ls hP hD hS hl
  have hF : ∀ q, va_A wc H.size q → A q := by
    intro q h
    rcases h with ⟨k, x, h⟩ | h
    · exact hD.2 k _ h
    · exact X.2.2.2.2.2.2.1 q (Nat.le_trans hS.1 h)
  refine va_callv (hrun H locs ls hP hD hl) hS (fun q _ h => hF q h) hF (fun u t H1 locs1 ht hvm hp hB hz hk hS1 => ?_)
  obtain ⟨hP1, hD1⟩ := hB
  rw [ht] at hP1
  exact kk u hp H1 locs1 ls hP1 (hD1.weaken (fun k q _ h => hF q.1 h)) hS1 hl
theorem gc_vL (X : gx p s m args c cc nL own Ts D cl tys A) {post : S → Prop} (hrun : ∀ (H : Heap) (locs : List Loc) (ls : Array Slot), va_P D cl wc H → va_D A wc → lv_has ls nL lv → va_Run p l e R s m args below meth c H locs cells slots mc ms (F0 m pc ls st) rest (qV D cl post wo (va_A wc H.size) a) (va_A wc H.size)) (kk : ∀ u, post u → gg p l e R s m args below meth c (cells + mc) (slots + ms) Q D cl A nL (wo u ++ wr) lv (pc + 3) (rest)) : gg p l e R s m args below meth c cells slots Q D cl A nL (wc ++ wr) lv pc st := by
  intro H locs ls hP hD hS hl
  have hF : ∀ q, va_A wc H.size q → A q := by
    intro q h
    rcases h with ⟨k, x, h⟩ | h
    · exact hD.2 _ _ (gj_at1 h)
    · exact X.2.2.2.2.2.2.1 q (Nat.le_trans hS.1 h)
  refine va_callv (hrun H locs ls hP.left hD.left hl) hS (fun q _ h => hF q h) hF (fun u t H1 locs1 ht hvm hp hB hz hk hS1 => ?_)
  obtain ⟨hP1, hD1⟩ := hB
  rw [ht] at hP1
  obtain ⟨hP2, hD2⟩ := gj_L hP hD hk hF hP1 hD1
  exact kk u hp H1 locs1 ls hP2 hD2 hS1 hl
theorem gc_vR (X : gx p s m args c cc nL own Ts D cl tys A) {post : S → Prop} (hrun : ∀ (H : Heap) (locs : List Loc) (ls : Array Slot), va_P D cl wc H → va_D A wc → lv_has ls nL lv → va_Run p l e R s m args below meth c H locs cells slots mc ms (F0 m pc ls st) rest (qV D cl post wo (va_A wc H.size) a) (va_A wc H.size)) (kk : ∀ u, post u → gg p l e R s m args below meth c (cells + mc) (slots + ms) Q D cl A nL (wr ++ wo u) lv (pc + 3) (rest)) : gg p l e R s m args below meth c cells slots Q D cl A nL (wr ++ wc) lv pc st := by
  intro H locs ls hP hD hS hl
  have hF : ∀ q, va_A wc H.size q → A q := by
    intro q h
    rcases h with ⟨k, x, h⟩ | h
    · exact hD.2 _ _ (gj_at h)
    · exact X.2.2.2.2.2.2.1 q (Nat.le_trans hS.1 h)
  refine va_callv (hrun H locs ls hP.right hD.right hl) hS (fun q _ h => hF q h) hF (fun u t H1 locs1 ht hvm hp hB hz hk hS1 => ?_)
  obtain ⟨hP1, hD1⟩ := hB
  rw [ht] at hP1
  obtain ⟨hP2, hD2⟩ := gj_R hP hD hk hF hP1 hD1
  exact kk u hp H1 locs1 ls hP2 hD2 hS1 hl
theorem gc_q (X : gx p s m args c cc nL own Ts D cl tys A) {post : Option Nat → S → Prop} (hrun : ∀ (H : Heap) (locs : List Loc) (ls : Array Slot), va_P D cl wc H → va_D A wc → lv_has ls nL lv → va_Run p l e R s m args below meth c H locs cells slots mc ms (F0 m pc ls st) rest (qQ D cl post wo (va_A wc H.size) a) (va_A wc H.size)) (kk : ∀ r u, post r u → gg p l e R s m args below meth c (cells + mc) (slots + ms) Q D cl A nL (wo u) lv (pc + 3) (va_rf r :: rest)) : gg p l e R s m args below meth c cells slots Q D cl A nL wc lv pc st := by
  intro H locs ls hP hD hS hl
  have hF : ∀ q, va_A wc H.size q → A q := by
    intro q h
    rcases h with ⟨k, x, h⟩ | h
    · exact hD.2 k _ h
    · exact X.2.2.2.2.2.2.1 q (Nat.le_trans hS.1 h)
  refine va_callq (hrun H locs ls hP hD hl) hS (fun q _ h => hF q h) hF (fun r u t H1 locs1 ht hvm hp hB hz hk hS1 => ?_)
  obtain ⟨hP1, hD1⟩ := hB
  rw [ht] at hP1
  exact kk r u hp H1 locs1 ls hP1 (hD1.weaken (fun k q _ h => hF q.1 h)) hS1 hl
theorem gc_qL (X : gx p s m args c cc nL own Ts D cl tys A) {post : Option Nat → S → Prop} (hrun : ∀ (H : Heap) (locs : List Loc) (ls : Array Slot), va_P D cl wc H → va_D A wc → lv_has ls nL lv → va_Run p l e R s m args below meth c H locs cells slots mc ms (F0 m pc ls st) rest (qQ D cl post wo (va_A wc H.size) a) (va_A wc H.size)) (kk : ∀ r u, post r u → gg p l e R s m args below meth c (cells + mc) (slots + ms) Q D cl A nL (wo u ++ wr) lv (pc + 3) (va_rf r :: rest)) : gg p l e R s m args below meth c cells slots Q D cl A nL (wc ++ wr) lv pc st := by
  intro H locs ls hP hD hS hl
  have hF : ∀ q, va_A wc H.size q → A q := by
    intro q h
    rcases h with ⟨k, x, h⟩ | h
    · exact hD.2 _ _ (gj_at1 h)
    · exact X.2.2.2.2.2.2.1 q (Nat.le_trans hS.1 h)
  refine va_callq (hrun H locs ls hP.left hD.left hl) hS (fun q _ h => hF q h) hF (fun r u t H1 locs1 ht hvm hp hB hz hk hS1 => ?_)
  obtain ⟨hP1, hD1⟩ := hB
  rw [ht] at hP1
  obtain ⟨hP2, hD2⟩ := gj_L hP hD hk hF hP1 hD1
  exact kk r u hp H1 locs1 ls hP2 hD2 hS1 hl
theorem gc_qR (X : gx p s m args c cc nL own Ts D cl tys A) {post : Option Nat → S → Prop} (hrun : ∀ (H : Heap) (locs : List Loc) (ls : Array Slot), va_P D cl wc H → va_D A wc → lv_has ls nL lv → va_Run p l e R s m args below meth c H locs cells slots mc ms (F0 m pc ls st) rest (qQ D cl post wo (va_A wc H.size) a) (va_A wc H.size)) (kk : ∀ r u, post r u → gg p l e R s m args below meth c (cells + mc) (slots + ms) Q D cl A nL (wr ++ wo u) lv (pc + 3) (va_rf r :: rest)) : gg p l e R s m args below meth c cells slots Q D cl A nL (wr ++ wc) lv pc st := by
  intro H locs ls hP hD hS hl
  have hF : ∀ q, va_A wc H.size q → A q := by
    intro q h
    rcases h with ⟨k, x, h⟩ | h
    · exact hD.2 _ _ (gj_at h)
    · exact X.2.2.2.2.2.2.1 q (Nat.le_trans hS.1 h)
  refine va_callq (hrun H locs ls hP.right hD.right hl) hS (fun q _ h => hF q h) hF (fun r u t H1 locs1 ht hvm hp hB hz hk hS1 => ?_)
  obtain ⟨hP1, hD1⟩ := hB
  rw [ht] at hP1
  obtain ⟨hP2, hD2⟩ := gj_R hP hD hk hF hP1 hD1
  exact kk r u hp H1 locs1 ls hP2 hD2 hS1 hl
end GC
