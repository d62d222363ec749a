/-! my own frame: 'j ws k n pc lv st': the machine stands at pc, its world is ws, k cells of n slots are new, the locals hold lv, the stack st; the heap is hidden in it -/
abbrev cls7 : List vw_C := [(RX0, TX0, 9), (RX1, TX1, 4), (RX2, TX2, 9), (RX3, TX3, 5), (RX4, TX4, 11), (RX5, TX5, 38), (RJx4a65c, TJx4a65c, 3)]
abbrev tys6 (ar : Nat → ClassId) : List (ClassId × FieldType) := [(ar 0, .int), (ar 1, .boolean), (ar 2, .object "EggHouse$Egg"), (ar 3, .object "EggHouse$Packer"), (ar 4, .object "java/lang/Object"), (ar 5, .array .int)]
def gtbl : List Cond := lw_tbl.filter goodWord
theorem gtbl_in {w : Cond} (h : w ∈ lw_tbl) (hg : goodWord w = true) : w ∈ gtbl := List.mem_filter.mpr ⟨h, hg⟩
theorem gtbl_of {w : Cond} (h : w ∈ gtbl) : w ∈ lw_tbl := (List.mem_filter.mp h).1
theorem gtbl_good : GoodIn gtbl gtbl := fun w h => ⟨h, good_of_word (List.mem_filter.mp h).2⟩
theorem gtbl_cons {c : Cond} (h : c ∈ gtbl) : GoodIn gtbl (c :: gtbl) := fun w hw => (List.mem_cons.mp hw).elim (fun e => by subst e; exact gtbl_good _ h) (gtbl_good w)
abbrev XT : Type := (Nat → Prop) → State → Heap → Prop
def Xok (X : XT) : Prop := (∀ (A : Nat → Prop) (U V : State) (H : Heap), U.vm = V.vm → X A U H → X A V H) ∧ (∀ (A : Nat → Prop) (U V : State) (H : Heap), U.WarmedH V.vm → X A U H → X A V H) ∧ (∀ (A : Nat → Prop) (U : State) (H H1 : Heap), H.size ≤ H1.size → (∀ q : Nat, q < H.size → ¬ A q → H1[q]? = H[q]?) → X A U H → X A U H1) ∧ (∀ (A B : Nat → Prop) (U : State) (H : Heap), (∀ q : Nat, q < H.size → B q → A q) → X A U H → X B U H)
abbrev jT : Type := va_W → Nat → Nat → Nat → List (Nat × Value) → List Value → Prop
def JJ (p : Program) (l : Launch) (e : Env) (R : Room) (s : State) (m : MethodId) (args : Array Value) (below : List Frame) (meth : Method) (c : Code) (A : Nat → Prop) (D : va_G) (nL : Nat) (Q : State → Prop) : jT := fun ws k n pc lv st =>
  ∀ (H : Heap) (locs : List Loc) (ls : Array Slot), va_P D cls7 ws H → va_D A ws → va_S A s.heap H locs → lv_has ls nL lv → W p l e R s m args below meth c H locs k n Q (F0 m pc ls st)
def Cz (own : String) (cc : ByteArray) (nL : Nat) (D : va_G) (ar : Nat → ClassId) (X : XT) (p : Program) (s : State) (m : MethodId) (args : Array Value) (meth : Method) (c : Code) (A : Nat → Prop) : Prop :=
  p.tables.exec = Jvm.exec ∧ c.code = cc ∧ c.maxLocals = nL ∧ s.vm.findClass own = some m.cls ∧ (∀ w ∈ gtbl, w.before args s = true) ∧ va_K D cls7 (tys6 ar) s ∧ (∀ q, s.heap.size ≤ q → A q) ∧ Xok X ∧ X A s s.heap
/-- a body's context, but for its end -/
def Cx0 (own : String) (cc : ByteArray) (nL : Nat) (D : va_G) (ar : Nat → ClassId) (X : XT) (R : Room) (j : jT) : Prop :=
  ∃ (p : Program) (l : Launch) (e : Env) (s : State) (m : MethodId) (args : Array Value) (below : List Frame) (meth : Method) (c : Code) (A : Nat → Prop) (Q : State → Prop), Cz own cc nL D ar X p s m args meth c A ∧ j = JJ p l e R s m args below meth c A D nL Q
def Qn (D : va_G) (Ret : Option Value → va_W → Prop) (A : Nat → Prop) : Array Value → State → Outcome → State → Prop := fun _ st oc t => (∃ (r : Option Value) (ws' : va_W), oc = .returned r ∧ Ret r ws' ∧ va_P D cls7 ws' t.heap ∧ va_D A ws') ∧ va_F A st t
/-- a body's context, with its end: what it may answer, and in which world -/
def Cx (own : String) (cc : ByteArray) (nL : Nat) (D : va_G) (ar : Nat → ClassId) (X : XT) (R : Room) (ret : Option FieldType) (Ret : Option Value → va_W → Prop) (j : jT) : Prop :=
  ∃ (p : Program) (l : Launch) (e : Env) (s : State) (m : MethodId) (args : Array Value) (below : List Frame) (meth : Method) (c : Code) (A : Nat → Prop), Cz own cc nL D ar X p s m args meth c A ∧ meth.sig.returnType = ret ∧ meth.locks = false ∧ j = JJ p l e R s m args below meth c A D nL (MQ below (Qn D Ret A) args s R.cells R.slots A)
abbrev rmOf (fr lo mc ms : Nat) : Room := { frames := fr, cells := mc, slots := ms, locals := lo }
/-- a method's contract: from the world ws with these arguments it returns, and 'Ret answer world' -/
def Cn (D : va_G) (ar : Nat → ClassId) (X : XT) (y : MethodName) (cc : ByteArray) (nL : Nat) (ret : Option FieldType) (fr lo mc ms : Nat) (av : List Value) (ws : va_W) (Ret : Option Value → va_W → Prop) : Prop :=
  ∀ (l : Launch) (sz : Nat), Met l y (Cond.code y cc nL ret :: gtbl) (rmOf fr lo mc ms) (va_Pc av (fun U => U.heap.size = sz ∧ va_P D cls7 ws U.heap ∧ va_K D cls7 (tys6 ar) U ∧ va_D (fun _ => True) ws ∧ X (va_A ws sz) U U.heap)) (Qn D Ret (va_A ws sz)) mc ms (va_A ws sz)
theorem Cx.to {own : String} {cc : ByteArray} {nL : Nat} {D : va_G} {ar : Nat → ClassId} {X : XT} {R : Room} {ret : Option FieldType} {Ret : Option Value → va_W → Prop} {j : jT} (C : Cx own cc nL D ar X R ret Ret j) : Cx0 own cc nL D ar X R j := by
  obtain ⟨p, l, e, s, m, args, below, meth, c, A, hz, -, -, hj⟩ := C
  exact ⟨p, l, e, s, m, args, below, meth, c, A, _, hz, hj⟩
theorem Cn.of {own : String} {D : va_G} {ar : Nat → ClassId} {X : XT} {y : MethodName} {cc : ByteArray} {nL : Nat} {ret : Option FieldType} {fr lo mc ms : Nat} {av : List Value} {ws : va_W} {Ret : Option Value → va_W → Prop} (hX : Xok X) (hy : plainName y.cls = true) (ho : y.cls = own) (hv : (lg_sl av).length ≤ nL)
    (body : ∀ j : jT, Cx own cc nL D ar X (rmOf fr lo mc ms) ret Ret j → j ws 0 0 0 (lv_args 0 av) []) : Cn D ar X y cc nL ret fr lo mc ms av ws Ret := by
  intro l sz
  refine Met.ofW (cc := cc) (maxL := nL) (ret := ret) hy rfl ?_
  intro p e s m args below meth c s₁ B hml hpc
  obtain ⟨rfl, rfl, hP, hK, hD0, hXs⟩ := hpc
  have hts := atoms_spec (ws := Cond.code y cc nL ret :: gtbl) B.pre
  have hown : s.vm.findClass own = some m.cls := by rw [← ho]; exact findClass_of_methodNamed B.named
  have C : Cx own cc nL D ar X (rmOf fr lo mc ms) ret Ret (JJ p l e (rmOf fr lo mc ms) s m av.toArray below meth c (va_A ws s.heap.size) D nL (MQ below (Qn D Ret (va_A ws s.heap.size)) av.toArray s mc ms (va_A ws s.heap.size))) :=
    ⟨p, l, e, s, m, av.toArray, below, meth, c, va_A ws s.heap.size, ⟨B.exec, B.bytes, hml, hown, fun w hw => hts w (List.mem_cons_of_mem _ hw), hK, fun q h => Or.inr h, hX, hXs⟩, B.returns, B.notSynchronized, rfl⟩
  rw [lg_entry_eq]
  exact body _ C s.heap [] _ hP (hD0.self (sz := s.heap.size)) va_S.rf (lv_entry av hv)
/-- a value put into a local -/
def lvS (i : Nat) (v : Value) (lv : List (Nat × Value)) : List (Nat × Value) := cond (lv.any (fun q => q.1 == i)) (lv.map (fun q => cond (q.1 == i) (i, v) q)) (lv ++ [(i, v)])
def lvC (lv : List (Nat × Value)) : Bool := lv.all (fun q => q.2.category == 1)
theorem lvS_mem {i : Nat} {v : Value} {lv : List (Nat × Value)} {q : Nat × Value} (h : q ∈ lvS i v lv) : q = (i, v) ∨ (q ∈ lv ∧ ¬ q.1 = i) := by
  unfold lvS at h
  cases ha : lv.any (fun q => q.1 == i) with
  | true =>
    rw [ha] at h
    obtain ⟨x, hx, hq⟩ := List.mem_map.mp (show q ∈ lv.map _ from h)
    cases hb : (x.1 == i) with
    | true => rw [hb] at hq; exact Or.inl hq.symm
    | false =>
      rw [hb] at hq
      have e : x = q := hq
      subst e
      exact Or.inr ⟨hx, fun z => by rw [z] at hb; simp at hb⟩
  | false =>
    rw [ha] at h
    rcases List.mem_append.mp (show q ∈ lv ++ [(i, v)] from h) with h1 | h1
    · refine Or.inr ⟨h1, fun z => ?_⟩
      have h2 := List.any_eq_false.mp ha q h1
      rw [z] at h2
      simp at h2
    · exact Or.inl (List.mem_singleton.mp h1)
theorem lvS_has {ls : Array Slot} {nL i : Nat} {v : Value} {lv lv' : List (Nat × Value)} (hc : lvC lv = true) (hl : lvS i v lv = lv') (h : lv_has ls nL ((i, v) :: lv.filter (fun q => !(q.1 == i) && !(q.1 + 1 == i && q.2.category == 2)))) : lv_has ls nL lv' := by
  refine ⟨h.1, h.2.1, fun q hq => ?_⟩
  rw [← hl] at hq
  rcases lvS_mem hq with rfl | ⟨h1, h2⟩
  · exact h.2.2 _ List.mem_cons_self
  · refine h.2.2 q (List.mem_cons_of_mem _ (List.mem_filter.mpr ⟨h1, ?_⟩))
    have h3 := List.all_eq_true.mp hc q h1
    have h4 : q.2.category = 1 := by simpa using h3
    simp [h2, h4]
theorem lv_look {ls : Array Slot} {nL i : Nat} {v : Value} {lv : List (Nat × Value)} (h : lv_has ls nL lv) (hl : lv.lookup i = some v) : ls[i]? = some (.val v) := by
  refine h.2.2 (i, v) ?_
  clear h
  induction lv with
  | nil => cases hl
  | cons q r ih =>
    obtain ⟨a, b⟩ := q
    rw [List.lookup_cons] at hl
    cases hb : (i == a) with
    | true =>
      rw [hb] at hl
      have e : i = a := by simpa using hb
      subst e
      cases hl
      exact List.mem_cons_self
    | false =>
      rw [hb] at hl
      exact List.mem_cons_of_mem _ (ih hl)
section RU
variable {own : String} {cc : ByteArray} {nL : Nat} {D : va_G} {ar : Nat → ClassId} {X : XT} {R : Room} {j : jT}
variable {ws : va_W} {k n : Nat} {lv lv' : List (Nat × Value)} {st : List Value}

theorem r_iconst (C : Cx0 own cc nL D ar X R j) (pc : Nat) {z : Int} (v : Int32) (hd : decode cc pc = .ok (.iconst z, 1)) (hv : Int32.ofInt z = v) (kk : j ws k n (pc + 1) lv (.int v :: st)) : j ws k n pc lv st := by
  obtain ⟨p, l, e, s, m, args, below, meth, c, A, Q, ⟨hx, hb, hml, hown, hts, hK, hA, hX, hXs⟩, rfl⟩ := C
  intro H locs ls hP hD hS hl
  exact lv_iconst hx hb hd hv (kk H locs ls hP hD hS hl)
theorem r_bipush (C : Cx0 own cc nL D ar X R j) (pc : Nat) {z : Int} (v : Int32) (hd : decode cc pc = .ok (.bipush z, 2)) (hv : (Int8.ofInt z).toInt32 = v) (kk : j ws k n (pc + 2) lv (.int v :: st)) : j ws k n pc lv st := by
  obtain ⟨p, l, e, s, m, args, below, meth, c, A, Q, ⟨hx, hb, hml, hown, hts, hK, hA, hX, hXs⟩, rfl⟩ := C
  intro H locs ls hP hD hS hl
  exact lv_bipush hx hb hd hv (kk H locs ls hP hD hS hl)
theorem r_sipush (C : Cx0 own cc nL D ar X R j) (pc : Nat) {z : Int} (v : Int32) (hd : decode cc pc = .ok (.sipush z, 3)) (hv : (Int16.ofInt z).toInt32 = v) (kk : j ws k n (pc + 3) lv (.int v :: st)) : j ws k n pc lv st := by
  obtain ⟨p, l, e, s, m, args, below, meth, c, A, Q, ⟨hx, hb, hml, hown, hts, hK, hA, hX, hXs⟩, rfl⟩ := C
  intro H locs ls hP hD hS hl
  exact lv_sipush hx hb hd hv (kk H locs ls hP hD hS hl)
theorem r_lconst (C : Cx0 own cc nL D ar X R j) (pc : Nat) {z : Fin 2} (v : Int64) (hd : decode cc pc = .ok (.lconst z, 1)) (hv : Int64.ofNat (z : Nat) = v) (kk : j ws k n (pc + 1) lv (.long v :: st)) : j ws k n pc lv st := by
  obtain ⟨p, l, e, s, m, args, below, meth, c, A, Q, ⟨hx, hb, hml, hown, hts, hK, hA, hX, hXs⟩, rfl⟩ := C
  intro H locs ls hP hD hS hl
  exact lv_lconst hx hb hd hv (kk H locs ls hP hD hS hl)
theorem r_ldc (C : Cx0 own cc nL D ar X R j) (pc : Nat) {ix : Nat} {v : Int32} (hw : Cond.constant own ix v ∈ gtbl) (hd : decode cc pc = .ok (.ldc ix, 2)) (kk : j ws k n (pc + 2) lv (.int v :: st)) : j ws k n pc lv st := by
  obtain ⟨p, l, e, s, m, args, below, meth, c, A, Q, ⟨hx, hb, hml, hown, hts, hK, hA, hX, hXs⟩, rfl⟩ := C
  intro H locs ls hP hD hS hl
  exact lv_ldc hx hb hown (hts _ hw) hd (kk H locs ls hP hD hS hl)
theorem r_ldc2 (C : Cx0 own cc nL D ar X R j) (pc : Nat) {ix : Nat} {v : Int64} (hw : Cond.constantLong own ix v ∈ gtbl) (hd : decode cc pc = .ok (.ldc2_w ix, 3)) (kk : j ws k n (pc + 3) lv (.long v :: st)) : j ws k n pc lv st := by
  obtain ⟨p, l, e, s, m, args, below, meth, c, A, Q, ⟨hx, hb, hml, hown, hts, hK, hA, hX, hXs⟩, rfl⟩ := C
  intro H locs ls hP hD hS hl
  exact lv_ldc2 hx hb hown (hts _ hw) hd (kk H locs ls hP hD hS hl)
theorem r_iload_n (C : Cx0 own cc nL D ar X R j) (pc : Nat) {f : Fin 4} {x : Int32} (i : Nat) (hd : decode cc pc = .ok (.iload_n f, 1)) (hi : (f : Nat) = i) (hv : lv.lookup i = some (.int x)) (kk : j ws k n (pc + 1) lv (.int x :: st)) : j ws k n pc lv st := by
  obtain ⟨p, l, e, s, m, args, below, meth, c, A, Q, ⟨hx, hb, hml, hown, hts, hK, hA, hX, hXs⟩, rfl⟩ := C
  intro H locs ls hP hD hS hl
  exact lv_iload_n hx hb hd hi (lv_look hl hv) (kk H locs ls hP hD hS hl)
theorem r_iload (C : Cx0 own cc nL D ar X R j) (pc : Nat) {i : Nat} {x : Int32} (hd : decode cc pc = .ok (.iload i, 2)) (hv : lv.lookup i = some (.int x)) (kk : j ws k n (pc + 2) lv (.int x :: st)) : j ws k n pc lv st := by
  obtain ⟨p, l, e, s, m, args, below, meth, c, A, Q, ⟨hx, hb, hml, hown, hts, hK, hA, hX, hXs⟩, rfl⟩ := C
  intro H locs ls hP hD hS hl
  exact lv_iload hx hb hd (lv_look hl hv) (kk H locs ls hP hD hS hl)
theorem r_aload_n (C : Cx0 own cc nL D ar X R j) (pc : Nat) {f : Fin 4} {x : Nat} (i : Nat) (hd : decode cc pc = .ok (.aload_n f, 1)) (hi : (f : Nat) = i) (hv : lv.lookup i = some (.ref x)) (kk : j ws k n (pc + 1) lv (.ref x :: st)) : j ws k n pc lv st := by
  obtain ⟨p, l, e, s, m, args, below, meth, c, A, Q, ⟨hx, hb, hml, hown, hts, hK, hA, hX, hXs⟩, rfl⟩ := C
  intro H locs ls hP hD hS hl
  exact lv_aload_n hx hb hd hi (lv_look hl hv) (kk H locs ls hP hD hS hl)
theorem r_aload (C : Cx0 own cc nL D ar X R j) (pc : Nat) {i : Nat} {x : Nat} (hd : decode cc pc = .ok (.aload i, 2)) (hv : lv.lookup i = some (.ref x)) (kk : j ws k n (pc + 2) lv (.ref x :: st)) : j ws k n pc lv st := by
  obtain ⟨p, l, e, s, m, args, below, meth, c, A, Q, ⟨hx, hb, hml, hown, hts, hK, hA, hX, hXs⟩, rfl⟩ := C
  intro H locs ls hP hD hS hl
  exact lv_aload hx hb hd (lv_look hl hv) (kk H locs ls hP hD hS hl)
theorem r_aload_nN (C : Cx0 own cc nL D ar X R j) (pc : Nat) {f : Fin 4} (i : Nat) (hd : decode cc pc = .ok (.aload_n f, 1)) (hi : (f : Nat) = i) (hv : lv.lookup i = some .null) (kk : j ws k n (pc + 1) lv (.null :: st)) : j ws k n pc lv st := by
  obtain ⟨p, l, e, s, m, args, below, meth, c, A, Q, ⟨hx, hb, hml, hown, hts, hK, hA, hX, hXs⟩, rfl⟩ := C
  intro H locs ls hP hD hS hl
  exact lv_aload_nN hx hb hd hi (lv_look hl hv) (kk H locs ls hP hD hS hl)
theorem r_iadd (C : Cx0 own cc nL D ar X R j) (pc : Nat) {x y : Int32} (hd : decode cc pc = .ok (.iadd, 1)) (kk : j ws k n (pc + 1) lv (.int (x + y) :: st)) : j ws k n pc lv (.int y :: .int x :: st) := by
  obtain ⟨p, l, e, s, m, args, below, meth, c, A, Q, ⟨hx, hb, hml, hown, hts, hK, hA, hX, hXs⟩, rfl⟩ := C
  intro H locs ls hP hD hS hl
  exact lv_iadd hx hb hd (kk H locs ls hP hD hS hl)
theorem r_isub (C : Cx0 own cc nL D ar X R j) (pc : Nat) {x y : Int32} (hd : decode cc pc = .ok (.isub, 1)) (kk : j ws k n (pc + 1) lv (.int (x - y) :: st)) : j ws k n pc lv (.int y :: .int x :: st) := by
  obtain ⟨p, l, e, s, m, args, below, meth, c, A, Q, ⟨hx, hb, hml, hown, hts, hK, hA, hX, hXs⟩, rfl⟩ := C
  intro H locs ls hP hD hS hl
  exact lv_isub hx hb hd (kk H locs ls hP hD hS hl)
theorem r_imul (C : Cx0 own cc nL D ar X R j) (pc : Nat) {x y : Int32} (hd : decode cc pc = .ok (.imul, 1)) (kk : j ws k n (pc + 1) lv (.int (x * y) :: st)) : j ws k n pc lv (.int y :: .int x :: st) := by
  obtain ⟨p, l, e, s, m, args, below, meth, c, A, Q, ⟨hx, hb, hml, hown, hts, hK, hA, hX, hXs⟩, rfl⟩ := C
  intro H locs ls hP hD hS hl
  exact lv_imul hx hb hd (kk H locs ls hP hD hS hl)
theorem r_iand (C : Cx0 own cc nL D ar X R j) (pc : Nat) {x y : Int32} (hd : decode cc pc = .ok (.iand, 1)) (kk : j ws k n (pc + 1) lv (.int (x &&& y) :: st)) : j ws k n pc lv (.int y :: .int x :: st) := by
  obtain ⟨p, l, e, s, m, args, below, meth, c, A, Q, ⟨hx, hb, hml, hown, hts, hK, hA, hX, hXs⟩, rfl⟩ := C
  intro H locs ls hP hD hS hl
  exact lv_iand hx hb hd (kk H locs ls hP hD hS hl)
theorem r_ior (C : Cx0 own cc nL D ar X R j) (pc : Nat) {x y : Int32} (hd : decode cc pc = .ok (.ior, 1)) (kk : j ws k n (pc + 1) lv (.int (x ||| y) :: st)) : j ws k n pc lv (.int y :: .int x :: st) := by
  obtain ⟨p, l, e, s, m, args, below, meth, c, A, Q, ⟨hx, hb, hml, hown, hts, hK, hA, hX, hXs⟩, rfl⟩ := C
  intro H locs ls hP hD hS hl
  exact lv_ior hx hb hd (kk H locs ls hP hD hS hl)
theorem r_ishl (C : Cx0 own cc nL D ar X R j) (pc : Nat) {x y : Int32} (hd : decode cc pc = .ok (.ishl, 1)) (kk : j ws k n (pc + 1) lv (.int (x <<< (y &&& 31)) :: st)) : j ws k n pc lv (.int y :: .int x :: st) := by
  obtain ⟨p, l, e, s, m, args, below, meth, c, A, Q, ⟨hx, hb, hml, hown, hts, hK, hA, hX, hXs⟩, rfl⟩ := C
  intro H locs ls hP hD hS hl
  exact lv_ishl hx hb hd (kk H locs ls hP hD hS hl)
theorem r_ishr (C : Cx0 own cc nL D ar X R j) (pc : Nat) {x y : Int32} (hd : decode cc pc = .ok (.ishr, 1)) (kk : j ws k n (pc + 1) lv (.int (x >>> (y &&& 31)) :: st)) : j ws k n pc lv (.int y :: .int x :: st) := by
  obtain ⟨p, l, e, s, m, args, below, meth, c, A, Q, ⟨hx, hb, hml, hown, hts, hK, hA, hX, hXs⟩, rfl⟩ := C
  intro H locs ls hP hD hS hl
  exact lv_ishr hx hb hd (kk H locs ls hP hD hS hl)
theorem r_iushr (C : Cx0 own cc nL D ar X R j) (pc : Nat) {x y v : Int32} (hd : decode cc pc = .ok (.iushr, 1)) (hv : (x.toUInt32 >>> (y.toUInt32 &&& Int32.toUInt32 31)).toInt32 = v) (kk : j ws k n (pc + 1) lv (.int v :: st)) : j ws k n pc lv (.int y :: .int x :: st) := by
  obtain ⟨p, l, e, s, m, args, below, meth, c, A, Q, ⟨hx, hb, hml, hown, hts, hK, hA, hX, hXs⟩, rfl⟩ := C
  intro H locs ls hP hD hS hl
  exact lv_iushr hx hb hd hv (kk H locs ls hP hD hS hl)
theorem r_ladd (C : Cx0 own cc nL D ar X R j) (pc : Nat) {x y : Int64} (hd : decode cc pc = .ok (.ladd, 1)) (kk : j ws k n (pc + 1) lv (.long (x + y) :: st)) : j ws k n pc lv (.long y :: .long x :: st) := by
  obtain ⟨p, l, e, s, m, args, below, meth, c, A, Q, ⟨hx, hb, hml, hown, hts, hK, hA, hX, hXs⟩, rfl⟩ := C
  intro H locs ls hP hD hS hl
  exact lv_ladd hx hb hd (kk H locs ls hP hD hS hl)
theorem r_lcmp (C : Cx0 own cc nL D ar X R j) (pc : Nat) {x y : Int64} (hd : decode cc pc = .ok (.lcmp, 1)) (kk : j ws k n (pc + 1) lv (.int (lg_cmp x y) :: st)) : j ws k n pc lv (.long y :: .long x :: st) := by
  obtain ⟨p, l, e, s, m, args, below, meth, c, A, Q, ⟨hx, hb, hml, hown, hts, hK, hA, hX, hXs⟩, rfl⟩ := C
  intro H locs ls hP hD hS hl
  exact W.lcmp hx hb hd (kk H locs ls hP hD hS hl)
theorem r_dup (C : Cx0 own cc nL D ar X R j) (pc : Nat) {va : Value} (hd : decode cc pc = .ok (.dup, 1)) (hc : va.category = 1) (kk : j ws k n (pc + 1) lv (va :: va :: st)) : j ws k n pc lv (va :: st) := by
  obtain ⟨p, l, e, s, m, args, below, meth, c, A, Q, ⟨hx, hb, hml, hown, hts, hK, hA, hX, hXs⟩, rfl⟩ := C
  intro H locs ls hP hD hS hl
  exact lv_dup hx hb hd hc (kk H locs ls hP hD hS hl)
theorem r_dup_x1 (C : Cx0 own cc nL D ar X R j) (pc : Nat) {va vb : Value} (hd : decode cc pc = .ok (.dup_x1, 1)) (hc : va.category = 1) (hc2 : vb.category = 1) (kk : j ws k n (pc + 1) lv (va :: vb :: va :: st)) : j ws k n pc lv (va :: vb :: st) := by
  obtain ⟨p, l, e, s, m, args, below, meth, c, A, Q, ⟨hx, hb, hml, hown, hts, hK, hA, hX, hXs⟩, rfl⟩ := C
  intro H locs ls hP hD hS hl
  exact lv_dup_x1 hx hb hd hc hc2 (kk H locs ls hP hD hS hl)
theorem r_dup2 (C : Cx0 own cc nL D ar X R j) (pc : Nat) {va vb : Value} (hd : decode cc pc = .ok (.dup2, 1)) (hc : va.category = 1) (hc2 : vb.category = 1) (kk : j ws k n (pc + 1) lv (va :: vb :: va :: vb :: st)) : j ws k n pc lv (va :: vb :: st) := by
  obtain ⟨p, l, e, s, m, args, below, meth, c, A, Q, ⟨hx, hb, hml, hown, hts, hK, hA, hX, hXs⟩, rfl⟩ := C
  intro H locs ls hP hD hS hl
  exact lv_dup2_11 hx hb hd hc hc2 (kk H locs ls hP hD hS hl)
theorem r_pop (C : Cx0 own cc nL D ar X R j) (pc : Nat) {va : Value} (hd : decode cc pc = .ok (.pop, 1)) (hc : va.category = 1) (kk : j ws k n (pc + 1) lv st) : j ws k n pc lv (va :: st) := by
  obtain ⟨p, l, e, s, m, args, below, meth, c, A, Q, ⟨hx, hb, hml, hown, hts, hK, hA, hX, hXs⟩, rfl⟩ := C
  intro H locs ls hP hD hS hl
  exact lv_pop hx hb hd hc (kk H locs ls hP hD hS hl)
theorem r_null (C : Cx0 own cc nL D ar X R j) (pc : Nat) (hd : decode cc pc = .ok (.aconst_null, 1)) (kk : j ws k n (pc + 1) lv (.null :: st)) : j ws k n pc lv st := by
  obtain ⟨p, l, e, s, m, args, below, meth, c, A, Q, ⟨hx, hb, hml, hown, hts, hK, hA, hX, hXs⟩, rfl⟩ := C
  intro H locs ls hP hD hS hl
  exact lv_null hx hb hd (kk H locs ls hP hD hS hl)
theorem r_goto (C : Cx0 own cc nL D ar X R j) (pc : Nat) {off : Int} (tgt : Nat) (hd : decode cc pc = .ok (.goto off, 3)) (ht : (pc : Int) + off = (tgt : Int)) (kk : j ws k n tgt lv st) : j ws k n pc lv st := by
  obtain ⟨p, l, e, s, m, args, below, meth, c, A, Q, ⟨hx, hb, hml, hown, hts, hK, hA, hX, hXs⟩, rfl⟩ := C
  intro H locs ls hP hD hS hl
  exact lv_goto hx hb hd ht (kk H locs ls hP hD hS hl)
theorem r_ifnull (C : Cx0 own cc nL D ar X R j) (pc : Nat) {x : Nat} {off : Int} (hd : decode cc pc = .ok (.ifnull off, 3)) (kk : j ws k n (pc + 3) lv st) : j ws k n pc lv (.ref x :: st) := by
  obtain ⟨p, l, e, s, m, args, below, meth, c, A, Q, ⟨hx, hb, hml, hown, hts, hK, hA, hX, hXs⟩, rfl⟩ := C
  intro H locs ls hP hD hS hl
  exact lv_ifnull hx hb hd (kk H locs ls hP hD hS hl)
theorem r_ifnullN (C : Cx0 own cc nL D ar X R j) (pc : Nat) {off : Int} (tgt : Nat) (hd : decode cc pc = .ok (.ifnull off, 3)) (ht : (pc : Int) + off = (tgt : Int)) (kk : j ws k n tgt lv st) : j ws k n pc lv (.null :: st) := by
  obtain ⟨p, l, e, s, m, args, below, meth, c, A, Q, ⟨hx, hb, hml, hown, hts, hK, hA, hX, hXs⟩, rfl⟩ := C
  intro H locs ls hP hD hS hl
  exact lv_ifnullN hx hb hd ht (kk H locs ls hP hD hS hl)
theorem r_ifnonnull (C : Cx0 own cc nL D ar X R j) (pc : Nat) {x : Nat} {off : Int} (tgt : Nat) (hd : decode cc pc = .ok (.ifnonnull off, 3)) (ht : (pc : Int) + off = (tgt : Int)) (kk : j ws k n tgt lv st) : j ws k n pc lv (.ref x :: st) := by
  obtain ⟨p, l, e, s, m, args, below, meth, c, A, Q, ⟨hx, hb, hml, hown, hts, hK, hA, hX, hXs⟩, rfl⟩ := C
  intro H locs ls hP hD hS hl
  exact lv_ifnonnull hx hb hd ht (kk H locs ls hP hD hS hl)
theorem r_ifnonnullN (C : Cx0 own cc nL D ar X R j) (pc : Nat) {off : Int} (hd : decode cc pc = .ok (.ifnonnull off, 3)) (kk : j ws k n (pc + 3) lv st) : j ws k n pc lv (.null :: st) := by
  obtain ⟨p, l, e, s, m, args, below, meth, c, A, Q, ⟨hx, hb, hml, hown, hts, hK, hA, hX, hXs⟩, rfl⟩ := C
  intro H locs ls hP hD hS hl
  exact lv_ifnonnullN hx hb hd (kk H locs ls hP hD hS hl)
theorem r_tableIn (C : Cx0 own cc nL D ar X R j) (pc : Nat) {dflt lo hi : Int} {offs : Array Int} {len : Nat} {x : Int32} {off : Int} (tgt : Nat) (hd : decode cc pc = .ok (.tableswitch dflt lo hi offs, len)) (h1 : ¬ x.toInt < lo) (h2 : ¬ hi < x.toInt) (ho : offs[(x.toInt - lo).toNat]? = some off) (ht : (pc : Int) + off = (tgt : Int)) (kk : j ws k n tgt lv st) : j ws k n pc lv (.int x :: st) := by
  obtain ⟨p, l, e, s, m, args, below, meth, c, A, Q, ⟨hx, hb, hml, hown, hts, hK, hA, hX, hXs⟩, rfl⟩ := C
  intro H locs ls hP hD hS hl
  exact lv_tableIn hx hb hd h1 h2 ho ht (kk H locs ls hP hD hS hl)
theorem r_tableOut (C : Cx0 own cc nL D ar X R j) (pc : Nat) {dflt lo hi : Int} {offs : Array Int} {len : Nat} {x : Int32} (tgt : Nat) (hd : decode cc pc = .ok (.tableswitch dflt lo hi offs, len)) (h : x.toInt < lo ∨ hi < x.toInt) (ht : (pc : Int) + dflt = (tgt : Int)) (kk : j ws k n tgt lv st) : j ws k n pc lv (.int x :: st) := by
  obtain ⟨p, l, e, s, m, args, below, meth, c, A, Q, ⟨hx, hb, hml, hown, hts, hK, hA, hX, hXs⟩, rfl⟩ := C
  intro H locs ls hP hD hS hl
  exact lv_tableOut hx hb hd h ht (kk H locs ls hP hD hS hl)
theorem r_lookup (C : Cx0 own cc nL D ar X R j) (pc : Nat) {dflt : Int} {ps : Array (Int × Int)} {len : Nat} {x : Int32} {off : Int} (tgt : Nat) (hd : decode cc pc = .ok (.lookupswitch dflt ps, len)) (hp : (ps.toList.zip (ps.toList.drop 1)).all (fun (a, next) => a.1 < next.1) = true) (ho : Op.lookupswitch.offset ps.toList dflt x.toInt = off) (ht : (pc : Int) + off = (tgt : Int)) (kk : j ws k n tgt lv st) : j ws k n pc lv (.int x :: st) := by
  obtain ⟨p, l, e, s, m, args, below, meth, c, A, Q, ⟨hx, hb, hml, hown, hts, hK, hA, hX, hXs⟩, rfl⟩ := C
  intro H locs ls hP hD hS hl
  exact lv_lookup hx hb hd hp ho ht (kk H locs ls hP hD hS hl)
theorem r_istore_n (C : Cx0 own cc nL D ar X R j) (pc : Nat) {f : Fin 4} {x : Int32} (i : Nat) (hd : decode cc pc = .ok (.istore_n f, 1)) (hi : (f : Nat) = i) (hc : lvC lv = true) (hn : i < nL) (hl0 : lvS i (.int x) lv = lv') (kk : j ws k n (pc + 1) lv' st) : j ws k n pc lv (.int x :: st) := by
  obtain ⟨p, l, e, s, m, args, below, meth, c, A, Q, ⟨hx, hb, hml, hown, hts, hK, hA, hX, hXs⟩, rfl⟩ := C
  intro H locs ls hP hD hS hl
  exact lv_istore_n hx hb hd hi hl hn rfl (fun ls' hl' => kk H locs ls' hP hD hS (lvS_has hc hl0 hl'))
theorem r_istore (C : Cx0 own cc nL D ar X R j) (pc : Nat) {i : Nat} {x : Int32} (hd : decode cc pc = .ok (.istore i, 2)) (hc : lvC lv = true) (hn : i < nL) (hl0 : lvS i (.int x) lv = lv') (kk : j ws k n (pc + 2) lv' st) : j ws k n pc lv (.int x :: st) := by
  obtain ⟨p, l, e, s, m, args, below, meth, c, A, Q, ⟨hx, hb, hml, hown, hts, hK, hA, hX, hXs⟩, rfl⟩ := C
  intro H locs ls hP hD hS hl
  exact lv_istore hx hb hd hl hn rfl (fun ls' hl' => kk H locs ls' hP hD hS (lvS_has hc hl0 hl'))
theorem r_astore_n (C : Cx0 own cc nL D ar X R j) (pc : Nat) {f : Fin 4} {x : Nat} (i : Nat) (hd : decode cc pc = .ok (.astore_n f, 1)) (hi : (f : Nat) = i) (hc : lvC lv = true) (hn : i < nL) (hl0 : lvS i (.ref x) lv = lv') (kk : j ws k n (pc + 1) lv' st) : j ws k n pc lv (.ref x :: st) := by
  obtain ⟨p, l, e, s, m, args, below, meth, c, A, Q, ⟨hx, hb, hml, hown, hts, hK, hA, hX, hXs⟩, rfl⟩ := C
  intro H locs ls hP hD hS hl
  exact lv_astore_n hx hb hd hi hl hn rfl (fun ls' hl' => kk H locs ls' hP hD hS (lvS_has hc hl0 hl'))
theorem r_astore (C : Cx0 own cc nL D ar X R j) (pc : Nat) {i : Nat} {x : Nat} (hd : decode cc pc = .ok (.astore i, 2)) (hc : lvC lv = true) (hn : i < nL) (hl0 : lvS i (.ref x) lv = lv') (kk : j ws k n (pc + 2) lv' st) : j ws k n pc lv (.ref x :: st) := by
  obtain ⟨p, l, e, s, m, args, below, meth, c, A, Q, ⟨hx, hb, hml, hown, hts, hK, hA, hX, hXs⟩, rfl⟩ := C
  intro H locs ls hP hD hS hl
  exact lv_astore hx hb hd hl hn rfl (fun ls' hl' => kk H locs ls' hP hD hS (lvS_has hc hl0 hl'))
theorem r_astore_nN (C : Cx0 own cc nL D ar X R j) (pc : Nat) {f : Fin 4} (i : Nat) (hd : decode cc pc = .ok (.astore_n f, 1)) (hi : (f : Nat) = i) (hc : lvC lv = true) (hn : i < nL) (hl0 : lvS i .null lv = lv') (kk : j ws k n (pc + 1) lv' st) : j ws k n pc lv (.null :: st) := by
  obtain ⟨p, l, e, s, m, args, below, meth, c, A, Q, ⟨hx, hb, hml, hown, hts, hK, hA, hX, hXs⟩, rfl⟩ := C
  intro H locs ls hP hD hS hl
  exact lv_astore_nN hx hb hd hi hl hn rfl (fun ls' hl' => kk H locs ls' hP hD hS (lvS_has hc hl0 hl'))
theorem r_iinc (C : Cx0 own cc nL D ar X R j) (pc : Nat) {i : Nat} {z : Int} {x : Int32} (v : Int32) (hd : decode cc pc = .ok (.iinc i z, 3)) (hx0 : lv.lookup i = some (.int x)) (hv : x + Int32.ofInt z = v) (hc : lvC lv = true) (hn : i < nL) (hl0 : lvS i (.int v) lv = lv') (kk : j ws k n (pc + 3) lv' st) : j ws k n pc lv st := by
  obtain ⟨p, l, e, s, m, args, below, meth, c, A, Q, ⟨hx, hb, hml, hown, hts, hK, hA, hX, hXs⟩, rfl⟩ := C
  intro H locs ls hP hD hS hl
  have hm : ∃ k9 : Nat, lv[k9]? = some (i, .int x) := by
    have : (i, Value.int x) ∈ lv := by
      clear kk hl0 hc hl
      induction lv with
      | nil => cases hx0
      | cons q r ih =>
        obtain ⟨a, b⟩ := q
        rw [List.lookup_cons] at hx0
        cases hb9 : (i == a) with
        | true =>
          rw [hb9] at hx0
          have e : i = a := by simpa using hb9
          subst e
          cases hx0
          exact List.mem_cons_self
        | false =>
          rw [hb9] at hx0
          exact List.mem_cons_of_mem _ (ih hx0)
    exact List.getElem?_of_mem this
  obtain ⟨k9, hk9⟩ := hm
  exact lv_iinc hx hb hd hl hk9 hv hn rfl (fun ls' hl' => kk H locs ls' hP hD hS (lvS_has hc hl0 hl'))
theorem r_if_eq (C : Cx0 own cc nL D ar X R j) (pc : Nat) {x : Int32} {off : Int} (tgt : Nat) (hd : decode cc pc = .ok (.ifCond .eq off, 3)) (ht : (pc : Int) + off = (tgt : Int)) (kt : x = 0 → j ws k n tgt lv st) (kf : ¬ x = 0 → j ws k n (pc + 3) lv st) : j ws k n pc lv (.int x :: st) := by
  obtain ⟨p, l, e, s, m, args, below, meth, c, A, Q, ⟨hx, hb, hml, hown, hts, hK, hA, hX, hXs⟩, rfl⟩ := C
  intro H locs ls hP hD hS hl
  exact lv_if_eq hx hb hd ht (fun h => kt h H locs ls hP hD hS hl) (fun h => kf h H locs ls hP hD hS hl)
theorem r_icmp_eq (C : Cx0 own cc nL D ar X R j) (pc : Nat) {x y : Int32} {off : Int} (tgt : Nat) (hd : decode cc pc = .ok (.if_icmp .eq off, 3)) (ht : (pc : Int) + off = (tgt : Int)) (kt : x = y → j ws k n tgt lv st) (kf : ¬ x = y → j ws k n (pc + 3) lv st) : j ws k n pc lv (.int y :: .int x :: st) := by
  obtain ⟨p, l, e, s, m, args, below, meth, c, A, Q, ⟨hx, hb, hml, hown, hts, hK, hA, hX, hXs⟩, rfl⟩ := C
  intro H locs ls hP hD hS hl
  exact lv_icmp_eq hx hb hd ht (fun h => kt h H locs ls hP hD hS hl) (fun h => kf h H locs ls hP hD hS hl)
theorem r_if_ne (C : Cx0 own cc nL D ar X R j) (pc : Nat) {x : Int32} {off : Int} (tgt : Nat) (hd : decode cc pc = .ok (.ifCond .ne off, 3)) (ht : (pc : Int) + off = (tgt : Int)) (kt : ¬ x = 0 → j ws k n tgt lv st) (kf : x = 0 → j ws k n (pc + 3) lv st) : j ws k n pc lv (.int x :: st) := by
  obtain ⟨p, l, e, s, m, args, below, meth, c, A, Q, ⟨hx, hb, hml, hown, hts, hK, hA, hX, hXs⟩, rfl⟩ := C
  intro H locs ls hP hD hS hl
  exact lv_if_ne hx hb hd ht (fun h => kt h H locs ls hP hD hS hl) (fun h => kf h H locs ls hP hD hS hl)
theorem r_icmp_ne (C : Cx0 own cc nL D ar X R j) (pc : Nat) {x y : Int32} {off : Int} (tgt : Nat) (hd : decode cc pc = .ok (.if_icmp .ne off, 3)) (ht : (pc : Int) + off = (tgt : Int)) (kt : ¬ x = y → j ws k n tgt lv st) (kf : x = y → j ws k n (pc + 3) lv st) : j ws k n pc lv (.int y :: .int x :: st) := by
  obtain ⟨p, l, e, s, m, args, below, meth, c, A, Q, ⟨hx, hb, hml, hown, hts, hK, hA, hX, hXs⟩, rfl⟩ := C
  intro H locs ls hP hD hS hl
  exact lv_icmp_ne hx hb hd ht (fun h => kt h H locs ls hP hD hS hl) (fun h => kf h H locs ls hP hD hS hl)
theorem r_if_lt (C : Cx0 own cc nL D ar X R j) (pc : Nat) {x : Int32} {off : Int} (tgt : Nat) (hd : decode cc pc = .ok (.ifCond .lt off, 3)) (ht : (pc : Int) + off = (tgt : Int)) (kt : x < 0 → j ws k n tgt lv st) (kf : ¬ x < 0 → j ws k n (pc + 3) lv st) : j ws k n pc lv (.int x :: st) := by
  obtain ⟨p, l, e, s, m, args, below, meth, c, A, Q, ⟨hx, hb, hml, hown, hts, hK, hA, hX, hXs⟩, rfl⟩ := C
  intro H locs ls hP hD hS hl
  exact lv_if_lt hx hb hd ht (fun h => kt h H locs ls hP hD hS hl) (fun h => kf h H locs ls hP hD hS hl)
theorem r_icmp_lt (C : Cx0 own cc nL D ar X R j) (pc : Nat) {x y : Int32} {off : Int} (tgt : Nat) (hd : decode cc pc = .ok (.if_icmp .lt off, 3)) (ht : (pc : Int) + off = (tgt : Int)) (kt : x < y → j ws k n tgt lv st) (kf : ¬ x < y → j ws k n (pc + 3) lv st) : j ws k n pc lv (.int y :: .int x :: st) := by
  obtain ⟨p, l, e, s, m, args, below, meth, c, A, Q, ⟨hx, hb, hml, hown, hts, hK, hA, hX, hXs⟩, rfl⟩ := C
  intro H locs ls hP hD hS hl
  exact lv_icmp_lt hx hb hd ht (fun h => kt h H locs ls hP hD hS hl) (fun h => kf h H locs ls hP hD hS hl)
theorem r_if_ge (C : Cx0 own cc nL D ar X R j) (pc : Nat) {x : Int32} {off : Int} (tgt : Nat) (hd : decode cc pc = .ok (.ifCond .ge off, 3)) (ht : (pc : Int) + off = (tgt : Int)) (kt : 0 ≤ x → j ws k n tgt lv st) (kf : ¬ 0 ≤ x → j ws k n (pc + 3) lv st) : j ws k n pc lv (.int x :: st) := by
  obtain ⟨p, l, e, s, m, args, below, meth, c, A, Q, ⟨hx, hb, hml, hown, hts, hK, hA, hX, hXs⟩, rfl⟩ := C
  intro H locs ls hP hD hS hl
  exact lv_if_ge hx hb hd ht (fun h => kt h H locs ls hP hD hS hl) (fun h => kf h H locs ls hP hD hS hl)
theorem r_icmp_ge (C : Cx0 own cc nL D ar X R j) (pc : Nat) {x y : Int32} {off : Int} (tgt : Nat) (hd : decode cc pc = .ok (.if_icmp .ge off, 3)) (ht : (pc : Int) + off = (tgt : Int)) (kt : y ≤ x → j ws k n tgt lv st) (kf : ¬ y ≤ x → j ws k n (pc + 3) lv st) : j ws k n pc lv (.int y :: .int x :: st) := by
  obtain ⟨p, l, e, s, m, args, below, meth, c, A, Q, ⟨hx, hb, hml, hown, hts, hK, hA, hX, hXs⟩, rfl⟩ := C
  intro H locs ls hP hD hS hl
  exact lv_icmp_ge hx hb hd ht (fun h => kt h H locs ls hP hD hS hl) (fun h => kf h H locs ls hP hD hS hl)
theorem r_if_gt (C : Cx0 own cc nL D ar X R j) (pc : Nat) {x : Int32} {off : Int} (tgt : Nat) (hd : decode cc pc = .ok (.ifCond .gt off, 3)) (ht : (pc : Int) + off = (tgt : Int)) (kt : 0 < x → j ws k n tgt lv st) (kf : ¬ 0 < x → j ws k n (pc + 3) lv st) : j ws k n pc lv (.int x :: st) := by
  obtain ⟨p, l, e, s, m, args, below, meth, c, A, Q, ⟨hx, hb, hml, hown, hts, hK, hA, hX, hXs⟩, rfl⟩ := C
  intro H locs ls hP hD hS hl
  exact lv_if_gt hx hb hd ht (fun h => kt h H locs ls hP hD hS hl) (fun h => kf h H locs ls hP hD hS hl)
theorem r_icmp_gt (C : Cx0 own cc nL D ar X R j) (pc : Nat) {x y : Int32} {off : Int} (tgt : Nat) (hd : decode cc pc = .ok (.if_icmp .gt off, 3)) (ht : (pc : Int) + off = (tgt : Int)) (kt : y < x → j ws k n tgt lv st) (kf : ¬ y < x → j ws k n (pc + 3) lv st) : j ws k n pc lv (.int y :: .int x :: st) := by
  obtain ⟨p, l, e, s, m, args, below, meth, c, A, Q, ⟨hx, hb, hml, hown, hts, hK, hA, hX, hXs⟩, rfl⟩ := C
  intro H locs ls hP hD hS hl
  exact lv_icmp_gt hx hb hd ht (fun h => kt h H locs ls hP hD hS hl) (fun h => kf h H locs ls hP hD hS hl)
theorem r_if_le (C : Cx0 own cc nL D ar X R j) (pc : Nat) {x : Int32} {off : Int} (tgt : Nat) (hd : decode cc pc = .ok (.ifCond .le off, 3)) (ht : (pc : Int) + off = (tgt : Int)) (kt : x ≤ 0 → j ws k n tgt lv st) (kf : ¬ x ≤ 0 → j ws k n (pc + 3) lv st) : j ws k n pc lv (.int x :: st) := by
  obtain ⟨p, l, e, s, m, args, below, meth, c, A, Q, ⟨hx, hb, hml, hown, hts, hK, hA, hX, hXs⟩, rfl⟩ := C
  intro H locs ls hP hD hS hl
  exact lv_if_le hx hb hd ht (fun h => kt h H locs ls hP hD hS hl) (fun h => kf h H locs ls hP hD hS hl)
theorem r_icmp_le (C : Cx0 own cc nL D ar X R j) (pc : Nat) {x y : Int32} {off : Int} (tgt : Nat) (hd : decode cc pc = .ok (.if_icmp .le off, 3)) (ht : (pc : Int) + off = (tgt : Int)) (kt : x ≤ y → j ws k n tgt lv st) (kf : ¬ x ≤ y → j ws k n (pc + 3) lv st) : j ws k n pc lv (.int y :: .int x :: st) := by
  obtain ⟨p, l, e, s, m, args, below, meth, c, A, Q, ⟨hx, hb, hml, hown, hts, hK, hA, hX, hXs⟩, rfl⟩ := C
  intro H locs ls hP hD hS hl
  exact lv_icmp_le hx hb hd ht (fun h => kt h H locs ls hP hD hS hl) (fun h => kf h H locs ls hP hD hS hl)
theorem r_widen (C : Cx0 own cc nL D ar X R j) {pc : Nat} (k' n' : Nat) (h1 : k ≤ k') (h2 : n ≤ n') (kk : j ws k' n' pc lv st) : j ws k n pc lv st := by
  obtain ⟨p, l, e, s, m, args, below, meth, c, A, Q, hz, rfl⟩ := C
  intro H locs ls hP hD hS hl
  exact W.widen h1 h2 (kk H locs ls hP hD hS hl)
end RU
section RET
variable {own : String} {cc : ByteArray} {nL : Nat} {D : va_G} {ar : Nat → ClassId} {X : XT} {R : Room} {j : jT} {Ret : Option Value → va_W → Prop}
variable {ws : va_W} {k n : Nat} {lv : List (Nat × Value)} {rt : FieldType}
theorem r_iret (C : Cx own cc nL D ar X R (some .int) Ret j) (pc : Nat) {v : Int32} (hd : decode cc pc = .ok (.ireturn, 1)) (hk : k ≤ R.cells) (hn : n ≤ R.slots) (hp : Ret (some (.int v)) ws) : j ws k n pc lv [.int v] := by
  obtain ⟨p, l, e, s, m, args, below, meth, c, A, ⟨hx, hb, hml, hown, hts, hK, hA, hX, hXs⟩, hr, hlocks, rfl⟩ := C
  intro H locs ls hP hD hS hl
  refine W.widen hk hn ?_
  exact W.iret hx hb hr (fun t ht hW => ⟨⟨_, ws, rfl, hp, by rw [ht]; exact hP, hD⟩, hS.F ht⟩) hS.2.2 hd hlocks
theorem r_zret (C : Cx own cc nL D ar X R (some .boolean) Ret j) (pc : Nat) {v : Int32} (hv : narrow .boolean (.int v) = .int v) (hd : decode cc pc = .ok (.ireturn, 1)) (hk : k ≤ R.cells) (hn : n ≤ R.slots) (hp : Ret (some (.int v)) ws) : j ws k n pc lv [.int v] := by
  obtain ⟨p, l, e, s, m, args, below, meth, c, A, ⟨hx, hb, hml, hown, hts, hK, hA, hX, hXs⟩, hr, hlocks, rfl⟩ := C
  intro H locs ls hP hD hS hl
  refine W.widen hk hn ?_
  exact W.zret hx hb hr hv (fun t ht hW => ⟨⟨_, ws, rfl, hp, by rw [ht]; exact hP, hD⟩, hS.F ht⟩) hS.2.2 hd hlocks
theorem r_lret (C : Cx own cc nL D ar X R (some .long) Ret j) (pc : Nat) {v : Int64} (hd : decode cc pc = .ok (.lreturn, 1)) (hk : k ≤ R.cells) (hn : n ≤ R.slots) (hp : Ret (some (.long v)) ws) : j ws k n pc lv [.long v] := by
  obtain ⟨p, l, e, s, m, args, below, meth, c, A, ⟨hx, hb, hml, hown, hts, hK, hA, hX, hXs⟩, hr, hlocks, rfl⟩ := C
  intro H locs ls hP hD hS hl
  refine W.widen hk hn ?_
  exact W.lret hx hb hr (fun t ht hW => ⟨⟨_, ws, rfl, hp, by rw [ht]; exact hP, hD⟩, hS.F ht⟩) hS.2.2 hd hlocks
theorem r_vret (C : Cx own cc nL D ar X R none Ret j) (pc : Nat)  (hd : decode cc pc = .ok (.return_, 1)) (hk : k ≤ R.cells) (hn : n ≤ R.slots) (hp : Ret none ws) : j ws k n pc lv [] := by
  obtain ⟨p, l, e, s, m, args, below, meth, c, A, ⟨hx, hb, hml, hown, hts, hK, hA, hX, hXs⟩, hr, hlocks, rfl⟩ := C
  intro H locs ls hP hD hS hl
  refine W.widen hk hn ?_
  exact W.vret hx hb hr (fun t ht hW => ⟨⟨_, ws, rfl, hp, by rw [ht]; exact hP, hD⟩, hS.F ht⟩) hS.2.2 hd hlocks
theorem r_aret (C : Cx own cc nL D ar X R (some rt) Ret j) (pc : Nat) {v : Value} (hrt : (∃ n, rt = .object n) ∨ ∃ t, rt = .array t) (hv : v = .null ∨ ∃ a, v = .ref a) (hd : decode cc pc = .ok (.areturn, 1)) (hk : k ≤ R.cells) (hn : n ≤ R.slots) (hp : Ret (some v) ws) : j ws k n pc lv [v] := by
  obtain ⟨p, l, e, s, m, args, below, meth, c, A, ⟨hx, hb, hml, hown, hts, hK, hA, hX, hXs⟩, hr, hlocks, rfl⟩ := C
  intro H locs ls hP hD hS hl
  refine W.widen hk hn ?_
  exact W.aret hx hb hr hrt hv (fun t ht hW => ⟨⟨_, ws, rfl, hp, by rw [ht]; exact hP, hD⟩, hS.F ht⟩) hS.2.2 hd hlocks
end RET
section CAL
variable {own : String} {cc : ByteArray} {nL : Nat} {D : va_G} {ar : Nat → ClassId} {X : XT} {R : Room} {j : jT}
variable {wl wc wr : va_W} {k n : Nat} {lv : List (Nat × Value)} {rest : List Value}
variable {y : MethodName} {bytes : ByteArray} {maxL fr lo mc ms index : Nat} {ret : Option FieldType} {As : List Value} {Ret : Option Value → va_W → Prop} {b : Nat}
theorem xx_split {D : va_G} {cl : List vw_C} {A : Nat → Prop} {w1 w2 : va_W} {H : Heap} (hP : va_P D cl (w1 ++ w2) H) (hD : va_D A (w1 ++ w2)) : va_P D cl w2 H ∧ va_D A w2 ∧ va_P D cl w1 H ∧ va_D A w1 ∧ (∀ (i j : Nat) (x y : Nat × va_E), w1[i]? = some x → w2[j]? = some y → x.1 ≠ y.1) := by
  have e2 : ∀ (i : Nat) (x : Nat × va_E), w2[i]? = some x → (w1 ++ w2)[w1.length + i]? = some x := fun i x h => by
    rw [List.getElem?_append_right (by omega)]
    rw [show w1.length + i - w1.length = i by omega]
    exact h
  have e1 : ∀ (i : Nat) (x : Nat × va_E), w1[i]? = some x → (w1 ++ w2)[i]? = some x ∧ i < w1.length := fun i x h => by
    have hi : i < w1.length := (List.getElem?_eq_some_iff.mp h).1
    rw [List.getElem?_append_left hi]
    exact ⟨h, hi⟩
  refine ⟨fun i x h => hP _ x (e2 i x h), ⟨fun i j x y hx hy hxy => ?_, fun i x h => hD.2 _ x (e2 i x h)⟩, fun i x h => hP _ x (e1 i x h).1, ⟨fun i j x y hx hy hxy => hD.1 i j x y (e1 i x hx).1 (e1 j y hy).1 hxy, fun i x h => hD.2 _ x (e1 i x h).1⟩, fun i j x y hx hy hxy => ?_⟩
  · have := hD.1 _ _ x y (e2 i x hx) (e2 j y hy) hxy
    omega
  · have h1 := e1 i x hx
    have := hD.1 _ _ x y h1.1 (e2 j y hy) hxy
    omega
theorem xx_comm {D : va_G} {cl : List vw_C} {A : Nat → Prop} {w1 w2 : va_W} {H : Heap} (hP : va_P D cl (w1 ++ w2) H) (hD : va_D A (w1 ++ w2)) : va_P D cl (w2 ++ w1) H ∧ va_D A (w2 ++ w1) := by
  obtain ⟨p2, d2, p1, d1, ne⟩ := xx_split hP hD
  exact ⟨va_P.app p2 p1, va_D.app d2 d1 (fun i j x y hx hy e => ne j i y x hy hx e.symm)⟩
/-- behind any call: the callee's world is new, the rest stands as it was -/
theorem xx_behind {pc : Nat} {p : Program} {l : Launch} {e : Env} {s : State} {m : MethodId} {args : Array Value} {below : List Frame} {meth : Method} {c : Code} {A : Nat → Prop} {Q : State → Prop} {H : Heap} {locs : List Loc} {ls : Array Slot} {st0 : List Value} {a : Array Value}
    (hr : va_Run p l e R s m args below meth c H locs k n mc ms (F0 m pc ls st0) rest (Qn D Ret (va_A wc H.size) a) (va_A wc H.size)) (hA : ∀ q, s.heap.size ≤ q → A q) (hP : va_P D cls7 (wl ++ wc) H) (hD : va_D A (wl ++ wc)) (hS : va_S A s.heap H locs) (hl : lv_has ls nL lv)
    (kk : ∀ (r : Option Value) (wc' : va_W), Ret r wc' → JJ p l e R s m args below meth c A D nL Q (wl ++ wc') (k + mc) (n + ms) (pc + 3) lv (r.toList ++ rest)) : W p l e R s m args below meth c H locs k n Q (F0 m pc ls st0) := by
  intro T hT XX
  obtain ⟨v, st₀, t, T', L, h0, X', hL, e1, e2, ⟨⟨r, wc', hv, hp, hP1, hD1⟩, hz, hk⟩, stp⟩ := hr T hT XX
  cases hv
  rw [h0] at hz hk
  obtain ⟨hPc, hDc, hPl, hDl, hne⟩ := xx_split hP hD
  have hF : ∀ q, va_A wc H.size q → A q := fun q h => by
    rcases h with ⟨k9, e9, h⟩ | h
    · exact hDc.2 k9 (q, e9) h
    · exact hA q (Nat.le_trans hS.1 h)
  have hnl : ∀ (i : Nat) (x : Nat × va_E), wl[i]? = some x → x.1 < H.size ∧ ¬ va_A wc H.size x.1 := fun i x hx => by
    have hlt := (hPl i x hx).lt
    refine ⟨hlt, fun h => ?_⟩
    rcases h with ⟨k9, e9, h⟩ | h
    · exact hne i k9 x (x.1, e9) hx h rfl
    · omega
  have hPn : va_P D cls7 (wl ++ wc') T'.heap := by
    rw [e1]
    exact va_P.app (fun i x hx => (hPl i x hx).kept (hk x.1 (hnl i x hx).1 (hnl i x hx).2)) hP1
  have hDn : va_D A (wl ++ wc') := va_D.app hDl (hD1.weaken (fun k9 q _ h => hF q.1 h)) (fun i j9 x z hx hy hxy => (hnl i x hx).2 (by rw [hxy]; exact hD1.2 j9 z hy))
  have hSn : va_S A s.heap T'.heap (locs ++ L) := ⟨Nat.le_trans hS.1 (by rw [e1]; exact hz), fun q h1 h2 => by rw [e1, hk q (Nat.lt_of_lt_of_le h1 hS.1) (fun z => h2 (hF q z))]; exact hS.2.1 q h1 h2, fun q hq => by
    rcases List.mem_append.mp hq with h | h
    · exact hS.2.2 q h
    · exact hF _ (hL q h)⟩
  obtain ⟨t2, a1, b1⟩ := kk v wc' hp T'.heap (locs ++ L) ls hPn hDn hSn hl T' rfl X'
  exact ⟨t2, stp t2 a1, b1⟩
/-- what a callee wants of the state in which it starts -/
theorem xx_pre {A : Nat → Prop} {s : State} {H : Heap} {locs : List Loc} (hX : Xok X) (hXs : X A s s.heap) (hK : va_K D cls7 (tys6 ar) s) (hA : ∀ q, s.heap.size ≤ q → A q) (hP : va_P D cls7 wc H) (hD : va_D A wc) (hS : va_S A s.heap H locs) :
    ∀ U : State, U.heap = H → s.WarmedH U.vm → (U.heap.size = H.size ∧ va_P D cls7 wc U.heap ∧ va_K D cls7 (tys6 ar) U ∧ va_D (fun _ => True) wc ∧ X (va_A wc H.size) U U.heap) := by
  intro U hU hW
  refine ⟨by rw [hU], by rw [hU]; exact hP, va_K.moved hW.alike hK, hD.weaken (fun _ _ _ _ => trivial), ?_⟩
  rw [hU]
  refine hX.2.2.2 A _ U H (fun q hq h => ?_) (hX.2.1 A s U H hW (hX.2.2.1 A s s.heap H hS.1 hS.2.1 hXs))
  rcases h with ⟨k9, e9, h⟩ | h
  · exact hD.2 k9 (q, e9) h
  · omega
theorem xx_blind {av : List Value} {sz : Nat} (hX : Xok X) : FrameBlind (va_Pc av (fun U => U.heap.size = sz ∧ va_P D cls7 wc U.heap ∧ va_K D cls7 (tys6 ar) U ∧ va_D (fun _ => True) wc ∧ X (va_A wc sz) U U.heap)) := fun a U g mk q => by
  obtain ⟨q0, q1, qP, qK, qD, qX⟩ := q
  exact ⟨q0, q1, qP, va_K.moved (u := U) (U := U.calling g mk a) (Vm.Alike.refl U.vm) qK, qD, hX.1 _ U (U.calling g mk a) _ rfl qX⟩
/-- the room and the words of a callee: frames, locals, its code in the tables, its descriptor -/
def Rm (R : Room) (k n : Nat) (y : MethodName) (bytes : ByteArray) (maxL : Nat) (ret : Option FieldType) (fr lo mc ms np : Nat) : Prop :=
  (fr + 1 ≤ R.frames ∧ 8 + (maxL + 11) + lo ≤ R.locals) ∧ (k + mc ≤ R.cells ∧ n + ms ≤ R.slots) ∧ Cond.code y bytes maxL ret ∈ gtbl ∧ Cond.initialized y.cls ∈ gtbl ∧ (y.cls ≠ "java/lang/invoke/MethodHandle" ∧ y.cls ≠ "java/lang/invoke/VarHandle" ∧ (parseMethodDescriptor y.desc).map (fun d => d.parameters.length) = some np)
/-- invokevirtual; the callee's world on the right -/
theorem r_callV (C : Cx0 own cc nL D ar X R j) (pc : Nat) (np : Nat) {CC : String} (hM : Cn D ar X y bytes maxL ret fr lo mc ms (.ref b :: As) wc Ret) (hR : Rm R k n y bytes maxL ret fr lo mc ms np) (hl1 : Cond.methodLink own index y ∈ gtbl) (hl2 : Cond.instanceMethod y ∈ gtbl) (hl3 : Cond.selects CC y y ∈ gtbl)
    (q0 ci : Nat) {fs : List Value} {T9 : u_T} {N9 : Nat} (hb0 : wc[q0]? = some (b, .inr (ci, fs))) (hc0 : cls7[ci]? = some (CC, T9, N9)) (hn : As.length = np) (hr : (rest.map fun v => v.category).sum ≤ 8) (hd : decode cc pc = .ok (.invokevirtual index, 3))
    (kk : ∀ (r : Option Value) (wc' : va_W), Ret r wc' → j (wl ++ wc') (k + mc) (n + ms) (pc + 3) lv (r.toList ++ rest)) : j (wl ++ wc) k n pc lv (As.reverse ++ .ref b :: rest) := by
  obtain ⟨p, l, e, s, m, args, below, meth, c, A, Q, ⟨hx, hb, hml, hown, hts, hK, hA, hX, hXs⟩, rfl⟩ := C
  intro H locs ls hP hD hS hl
  obtain ⟨hPc, hDc, -⟩ := xx_split hP hD
  refine xx_behind (va_runV (As := As) (rest := rest) ⟨hx, hb, hml, hown, hts⟩ (hM l H.size) ⟨callB_of np hts (gtbl_cons hR.2.2.1) rfl rfl rfl (hts _ hR.2.2.2.1) (hts _ hl1) hR.2.2.2.2 hR.1, hts _ hl2, hts _ hl3⟩ ⟨xx_blind hX, va_recv hK hPc hc0 hb0, fun U hU hW => ⟨rfl, xx_pre hX hXs hK hA hPc hDc hS U hU hW⟩⟩ rfl hn hl.1 rfl (lv_room hr) hd hR.2.1) hA hP hD hS hl kk
/-- invokestatic -/
theorem r_callS (C : Cx0 own cc nL D ar X R j) (pc : Nat) (np : Nat) (hM : Cn D ar X y bytes maxL ret fr lo mc ms As wc Ret) (hR : Rm R k n y bytes maxL ret fr lo mc ms np) (hl1 : Cond.methodLink own index y ∈ gtbl) (hl2 : Cond.static y ∈ gtbl)
    (hn : As.length = np) (hr : (rest.map fun v => v.category).sum ≤ 8) (hd : decode cc pc = .ok (.invokestatic index, 3))
    (kk : ∀ (r : Option Value) (wc' : va_W), Ret r wc' → j (wl ++ wc') (k + mc) (n + ms) (pc + 3) lv (r.toList ++ rest)) : j (wl ++ wc) k n pc lv (As.reverse ++ rest) := by
  obtain ⟨p, l, e, s, m, args, below, meth, c, A, Q, ⟨hx, hb, hml, hown, hts, hK, hA, hX, hXs⟩, rfl⟩ := C
  intro H locs ls hP hD hS hl
  obtain ⟨hPc, hDc, -⟩ := xx_split hP hD
  refine xx_behind (va_runS (As := As) (rest := rest) ⟨hx, hb, hml, hown, hts⟩ (hM l H.size) ⟨callB_of np hts (gtbl_cons hR.2.2.1) rfl rfl rfl (hts _ hR.2.2.2.1) (hts _ hl1) hR.2.2.2.2 hR.1, hts _ hl2⟩ ⟨xx_blind hX, fun U hU hW => ⟨rfl, xx_pre hX hXs hK hA hPc hDc hS U hU hW⟩⟩ rfl hn hl.1 rfl (lv_room hr) hd hR.2.1) hA hP hD hS hl kk
/-- invokespecial <init> -/
theorem r_callI (C : Cx0 own cc nL D ar X R j) (pc : Nat) (np : Nat) (hM : Cn D ar X y bytes maxL none fr lo mc ms (.ref b :: As) wc Ret) (hR : Rm R k n y bytes maxL none fr lo mc ms np) (hl1 : Cond.methodLink own index y ∈ gtbl) (hl2 : Cond.instanceMethod y ∈ gtbl) (hy1 : y.name = "<init>")
    (hn : As.length = np) (hr : (rest.map fun v => v.category).sum ≤ 8) (hd : decode cc pc = .ok (.invokespecial index, 3))
    (kk : ∀ (r : Option Value) (wc' : va_W), Ret r wc' → j (wl ++ wc') (k + mc) (n + ms) (pc + 3) lv (r.toList ++ rest)) : j (wl ++ wc) k n pc lv (As.reverse ++ .ref b :: rest) := by
  obtain ⟨p, l, e, s, m, args, below, meth, c, A, Q, ⟨hx, hb, hml, hown, hts, hK, hA, hX, hXs⟩, rfl⟩ := C
  intro H locs ls hP hD hS hl
  obtain ⟨hPc, hDc, -⟩ := xx_split hP hD
  refine xx_behind (va_runI (As := As) (rest := rest) ⟨hx, hb, hml, hown, hts⟩ (hM l H.size) ⟨callB_of np hts (gtbl_cons hR.2.2.1) rfl rfl rfl (hts _ hR.2.2.2.1) (hts _ hl1) hR.2.2.2.2 hR.1, hy1, hts _ hl2⟩ ⟨xx_blind hX, fun U hU hW => ⟨rfl, xx_pre hX hXs hK hA hPc hDc hS U hU hW⟩⟩ rfl hn hl.1 rfl (lv_room hr) hd hR.2.1) hA hP hD hS hl kk
/-- the callee's world may be moved to the right, or to the left -/
theorem r_comm (C : Cx0 own cc nL D ar X R j) {pc : Nat} {st : List Value} (kk : j (wr ++ wl) k n pc lv st) : j (wl ++ wr) k n pc lv st := by
  obtain ⟨p, l, e, s, m, args, below, meth, c, A, Q, hz, rfl⟩ := C
  intro H locs ls hP hD hS hl
  obtain ⟨h1, h2⟩ := xx_comm hP hD
  exact kk H locs ls h1 h2 hS hl
theorem r_objInit (C : Cx0 own cc nL D ar X R j) (pc : Nat) {ws : va_W} {a : Nat} (hl1 : Cond.methodLink own index Lib.objectInit ∈ gtbl) (hl2 : Cond.instanceMethod Lib.objectInit ∈ gtbl) (hl3 : Cond.code Lib.objectInit ⟨#[0xb1]⟩ 1 none ∈ gtbl) (hd : decode cc pc = .ok (.invokespecial index, 3)) (hf : 1 ≤ R.frames) (hlo : (rest.map fun v => v.category).sum + 12 ≤ R.locals)
    (kk : j ws k n (pc + 3) lv rest) : j ws k n pc lv (.ref a :: rest) := by
  obtain ⟨p, l, e, s, m, args, below, meth, c, A, Q, ⟨hx, hb, hml, hown, hts, hK, hA, hX, hXs⟩, rfl⟩ := C
  intro H locs ls hP hD hS hl
  exact W.objInit hx hb hown (hts _ hl1) (hts _ hl2) (hts _ hl3) rfl (by rw [hml]; exact hl.1) rfl hd hf (by show 2 * 0 + _ + 12 ≤ _; omega) (kk H locs ls hP hD hS hl)
end CAL

