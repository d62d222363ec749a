/-! the class's heap: addresses, kinds, lengths, number fields, reference fields, long fields, number arrays, reference arrays -/
abbrev CS : Type := List Nat × (Nat → Nat) × (Nat → Nat) × (Nat → Nat → Int32) × (Nat → Nat → Option Nat) × (Nat → Int64) × (Nat → Nat → Int32) × (Nat → Nat → Option Nat)
abbrev sL (S : CS) : List Nat := S.1
abbrev sK (S : CS) : Nat → Nat := S.2.1
abbrev sN (S : CS) : Nat → Nat := S.2.2.1
abbrev sI (S : CS) : Nat → Nat → Int32 := S.2.2.2.1
abbrev sR (S : CS) : Nat → Nat → Option Nat := S.2.2.2.2.1
abbrev sJ (S : CS) : Nat → Int64 := S.2.2.2.2.2.1
abbrev sA (S : CS) : Nat → Nat → Int32 := S.2.2.2.2.2.2.1
abbrev sB (S : CS) : Nat → Nat → Option Nat := S.2.2.2.2.2.2.2
def upr (R : Nat → Nat → Option Nat) (f a : Nat) (v : Option Nat) : Nat → Nat → Option Nat := fun g => if g = f then va_up (R g) a v else R g
abbrev uI (S : CS) (f a : Nat) (v : Int32) : CS := (S.1, S.2.1, S.2.2.1, up2 S.2.2.2.1 f a v, S.2.2.2.2.1, S.2.2.2.2.2.1, S.2.2.2.2.2.2.1, S.2.2.2.2.2.2.2)
abbrev uR (S : CS) (f a : Nat) (v : Option Nat) : CS := (S.1, S.2.1, S.2.2.1, S.2.2.2.1, upr S.2.2.2.2.1 f a v, S.2.2.2.2.2.1, S.2.2.2.2.2.2.1, S.2.2.2.2.2.2.2)
abbrev uJ (S : CS) (a : Nat) (v : Int64) : CS := (S.1, S.2.1, S.2.2.1, S.2.2.2.1, S.2.2.2.2.1, va_up S.2.2.2.2.2.1 a v, S.2.2.2.2.2.2.1, S.2.2.2.2.2.2.2)
abbrev uA (S : CS) (q x : Nat) (v : Int32) : CS := (S.1, S.2.1, S.2.2.1, S.2.2.2.1, S.2.2.2.2.1, S.2.2.2.2.2.1, up2 S.2.2.2.2.2.2.1 q x v, S.2.2.2.2.2.2.2)
abbrev uB (S : CS) (q : Nat) (f : Nat → Option Nat) : CS := (S.1, S.2.1, S.2.2.1, S.2.2.2.1, S.2.2.2.2.1, S.2.2.2.2.2.1, S.2.2.2.2.2.2.1, va_up S.2.2.2.2.2.2.2 q f)
/-- a new object of kind kd at q: all its fields are 0, null -/
def zI (I : Nat → Nat → Int32) (q : Nat) : Nat → Nat → Int32 := fun f a => if a = q then 0 else I f a
def zR (R : Nat → Nat → Option Nat) (q : Nat) : Nat → Nat → Option Nat := fun f a => if a = q then none else R f a
abbrev nO (S : CS) (q kd : Nat) : CS := (S.1 ++ [q], va_up S.2.1 q kd, S.2.2.1, zI S.2.2.2.1 q, zR S.2.2.2.2.1 q, va_up S.2.2.2.2.2.1 q 0, S.2.2.2.2.2.2.1, S.2.2.2.2.2.2.2)
/-- a new array -/
abbrev nA (S : CS) (q kd n : Nat) : CS := (S.1 ++ [q], va_up S.2.1 q kd, va_up S.2.2.1 q n, S.2.2.2.1, S.2.2.2.2.1, S.2.2.2.2.2.1, va_up S.2.2.2.2.2.2.1 q (fun _ => 0), va_up S.2.2.2.2.2.2.2 q (fun _ => none))
def Is (S : CS) (a kd : Nat) : Prop := a ∈ S.1 ∧ S.2.1 a = kd
def cE (ar : Nat → ClassId) (S : CS) (a : Nat) : va_E := if S.2.1 a = 0 then .inr (0, [.int (S.2.2.2.1 0 a), .int (S.2.2.2.1 1 a), .int (S.2.2.2.1 2 a), .int (S.2.2.2.1 3 a), .int (S.2.2.2.1 4 a), .int (S.2.2.2.1 5 a), .int (S.2.2.2.1 6 a), .int (S.2.2.2.1 7 a), .int (S.2.2.2.1 8 a)]) else if S.2.1 a = 1 then .inr (1, [.int (S.2.2.2.1 10 a), .int (S.2.2.2.1 11 a), .int (S.2.2.2.1 12 a), .int (S.2.2.2.1 13 a)]) else if S.2.1 a = 2 then .inr (2, [.int (S.2.2.2.1 20 a), .int (S.2.2.2.1 21 a), .int (S.2.2.2.1 22 a), .int (S.2.2.2.1 23 a), .int (S.2.2.2.1 24 a), .int (S.2.2.2.1 25 a), .int (S.2.2.2.1 26 a), .int (S.2.2.2.1 27 a), .int (S.2.2.2.1 28 a)]) else if S.2.1 a = 3 then .inr (3, [.int (S.2.2.2.1 30 a), .int (S.2.2.2.1 31 a), .int (S.2.2.2.1 32 a), .int (S.2.2.2.1 33 a), va_rf (S.2.2.2.2.1 0 a)]) else if S.2.1 a = 4 then .inr (4, [va_rf (S.2.2.2.2.1 1 a), va_rf (S.2.2.2.2.1 2 a), va_rf (S.2.2.2.2.1 3 a), va_rf (S.2.2.2.2.1 4 a), va_rf (S.2.2.2.2.1 5 a), va_rf (S.2.2.2.2.1 6 a), va_rf (S.2.2.2.2.1 7 a), .int (S.2.2.2.1 40 a), .int (S.2.2.2.1 41 a), .int (S.2.2.2.1 42 a), .long (S.2.2.2.2.2.1 a)]) else if S.2.1 a = 6 then .inr (6, [.int (S.2.2.2.1 50 a), va_rf (S.2.2.2.2.1 8 a), .int (S.2.2.2.1 51 a)]) else if S.2.1 a = 7 then .inl (ar 0, S.2.2.1 a, .inl (S.2.2.2.2.2.2.1 a)) else if S.2.1 a = 8 then .inl (ar 2, S.2.2.1 a, .inr (.inr (.inr (.inr (S.2.2.2.2.2.2.2 a))))) else if S.2.1 a = 9 then .inl (ar 3, S.2.2.1 a, .inr (.inr (.inr (.inr (S.2.2.2.2.2.2.2 a))))) else if S.2.1 a = 10 then .inl (ar 4, S.2.2.1 a, .inr (.inr (.inr (.inr (S.2.2.2.2.2.2.2 a))))) else .inl (ar 5, S.2.2.1 a, .inr (.inr (.inr (.inr (S.2.2.2.2.2.2.2 a)))))
def cW (ar : Nat → ClassId) (S : CS) : va_W := va_pl S.1 (cE ar S)
theorem cE_0 {ar : Nat → ClassId} {S : CS} {a : Nat} (h : S.2.1 a = 0) : cE ar S a = .inr (0, [.int (S.2.2.2.1 0 a), .int (S.2.2.2.1 1 a), .int (S.2.2.2.1 2 a), .int (S.2.2.2.1 3 a), .int (S.2.2.2.1 4 a), .int (S.2.2.2.1 5 a), .int (S.2.2.2.1 6 a), .int (S.2.2.2.1 7 a), .int (S.2.2.2.1 8 a)]) := by simp [cE, h]
theorem cE_1 {ar : Nat → ClassId} {S : CS} {a : Nat} (h : S.2.1 a = 1) : cE ar S a = .inr (1, [.int (S.2.2.2.1 10 a), .int (S.2.2.2.1 11 a), .int (S.2.2.2.1 12 a), .int (S.2.2.2.1 13 a)]) := by simp [cE, h]
theorem cE_2 {ar : Nat → ClassId} {S : CS} {a : Nat} (h : S.2.1 a = 2) : cE ar S a = .inr (2, [.int (S.2.2.2.1 20 a), .int (S.2.2.2.1 21 a), .int (S.2.2.2.1 22 a), .int (S.2.2.2.1 23 a), .int (S.2.2.2.1 24 a), .int (S.2.2.2.1 25 a), .int (S.2.2.2.1 26 a), .int (S.2.2.2.1 27 a), .int (S.2.2.2.1 28 a)]) := by simp [cE, h]
theorem cE_3 {ar : Nat → ClassId} {S : CS} {a : Nat} (h : S.2.1 a = 3) : cE ar S a = .inr (3, [.int (S.2.2.2.1 30 a), .int (S.2.2.2.1 31 a), .int (S.2.2.2.1 32 a), .int (S.2.2.2.1 33 a), va_rf (S.2.2.2.2.1 0 a)]) := by simp [cE, h]
theorem cE_4 {ar : Nat → ClassId} {S : CS} {a : Nat} (h : S.2.1 a = 4) : cE ar S a = .inr (4, [va_rf (S.2.2.2.2.1 1 a), va_rf (S.2.2.2.2.1 2 a), va_rf (S.2.2.2.2.1 3 a), va_rf (S.2.2.2.2.1 4 a), va_rf (S.2.2.2.2.1 5 a), va_rf (S.2.2.2.2.1 6 a), va_rf (S.2.2.2.2.1 7 a), .int (S.2.2.2.1 40 a), .int (S.2.2.2.1 41 a), .int (S.2.2.2.1 42 a), .long (S.2.2.2.2.2.1 a)]) := by simp [cE, h]
theorem cE_6 {ar : Nat → ClassId} {S : CS} {a : Nat} (h : S.2.1 a = 6) : cE ar S a = .inr (6, [.int (S.2.2.2.1 50 a), va_rf (S.2.2.2.2.1 8 a), .int (S.2.2.2.1 51 a)]) := by simp [cE, h]
theorem cE_7 {ar : Nat → ClassId} {S : CS} {a : Nat} (h : S.2.1 a = 7) : cE ar S a = .inl (ar 0, S.2.2.1 a, .inl (S.2.2.2.2.2.2.1 a)) := by simp [cE, h]
theorem cE_8 {ar : Nat → ClassId} {S : CS} {a : Nat} (h : S.2.1 a = 8) : cE ar S a = .inl (ar 2, S.2.2.1 a, .inr (.inr (.inr (.inr (S.2.2.2.2.2.2.2 a))))) := by simp [cE, h]
theorem cE_9 {ar : Nat → ClassId} {S : CS} {a : Nat} (h : S.2.1 a = 9) : cE ar S a = .inl (ar 3, S.2.2.1 a, .inr (.inr (.inr (.inr (S.2.2.2.2.2.2.2 a))))) := by simp [cE, h]
theorem cE_10 {ar : Nat → ClassId} {S : CS} {a : Nat} (h : S.2.1 a = 10) : cE ar S a = .inl (ar 4, S.2.2.1 a, .inr (.inr (.inr (.inr (S.2.2.2.2.2.2.2 a))))) := by simp [cE, h]
theorem cE_11 {ar : Nat → ClassId} {S : CS} {a : Nat} (h : S.2.1 a = 11) : cE ar S a = .inl (ar 5, S.2.2.1 a, .inr (.inr (.inr (.inr (S.2.2.2.2.2.2.2 a))))) := by simp [cE, h]
theorem cW_get {ar : Nat → ClassId} {S : CS} {a : Nat} {e : va_E} (h : a ∈ S.1) (he : cE ar S a = e) : ∃ q : Nat, (cW ar S)[q]? = some (a, e) := by
  obtain ⟨q, hq⟩ := va_pl_get (X := []) (f := cE ar S) h
  exact ⟨q, by rw [← he]; exact hq⟩
theorem cW_set {ar : Nat → ClassId} {S S' : CS} {A : Nat → Prop} {a q : Nat} {e0 e : va_E} (hD : va_D A (cW ar S)) (h : a ∈ S.1) (hq : (cW ar S)[q]? = some (a, e0)) (h0 : cE ar S a = e0) (hL : S'.1 = S.1) (ha : cE ar S' a = e) (ho : ∀ b, b ≠ a → cE ar S' b = cE ar S b) : (cW ar S).set q (a, e) = cW ar S' := by
  have h1 := va_pl_set (X := []) (f := cE ar S) (e := e) hD h (k := q) (by rw [h0]; exact hq)
  show ([] ++ va_pl S.1 (cE ar S)).set q (a, e) = va_pl S'.1 (cE ar S')
  rw [h1, hL]
  exact va_pl_congr (fun b => by
    by_cases hb : b = a
    · subst hb
      rw [ha]; simp [va_up]
    · rw [ho b hb]; simp [va_up, hb])
theorem up2_o {I : Nat → Nat → Int32} {f g a b : Nat} {v : Int32} (h : b ≠ a) : up2 I f a v g b = I g b := by
  unfold up2 upd
  by_cases e : g = f
  · rw [if_pos e, if_neg h]
  · rw [if_neg e]
theorem upr_o {R : Nat → Nat → Option Nat} {f g a b : Nat} {v : Option Nat} (h : b ≠ a) : upr R f a v g b = R g b := by
  unfold upr va_up
  by_cases e : g = f
  · rw [if_pos e, if_neg h]
  · rw [if_neg e]
theorem up2_e {I : Nat → Nat → Int32} {f a : Nat} {v : Int32} : up2 I f a v f a = v := by
  unfold up2 upd
  rw [if_pos rfl, if_pos rfl]
theorem upr_e {R : Nat → Nat → Option Nat} {f a : Nat} {v : Option Nat} : upr R f a v f a = v := by
  unfold upr va_up
  rw [if_pos rfl, if_pos rfl]
theorem cE_oI {ar : Nat → ClassId} {S : CS} {f a b : Nat} {v : Int32} (h : b ≠ a) : cE ar (uI S f a v) b = cE ar S b := by
  simp only [cE, up2_o h]
theorem cE_oR {ar : Nat → ClassId} {S : CS} {f a b : Nat} {v : Option Nat} (h : b ≠ a) : cE ar (uR S f a v) b = cE ar S b := by
  simp only [cE, upr_o h]
theorem cE_oJ {ar : Nat → ClassId} {S : CS} {a b : Nat} {v : Int64} (h : b ≠ a) : cE ar (uJ S a v) b = cE ar S b := by
  simp only [cE, va_up_ne _ _ h]
theorem cE_oA {ar : Nat → ClassId} {S : CS} {a b x : Nat} {v : Int32} (h : b ≠ a) : cE ar (uA S a x v) b = cE ar S b := by
  simp only [cE, up2_n h]
theorem cE_oB {ar : Nat → ClassId} {S : CS} {a b : Nat} {f : Nat → Option Nat} (h : b ≠ a) : cE ar (uB S a f) b = cE ar S b := by
  simp only [cE, va_up_ne _ _ h]
theorem cE_oO {ar : Nat → ClassId} {S : CS} {q b kd : Nat} (h : b ≠ q) : cE ar (nO S q kd) b = cE ar S b := by
  simp only [cE, va_up_ne _ _ h, zI, zR, if_neg h]
theorem cE_oN {ar : Nat → ClassId} {S : CS} {q b kd n : Nat} (h : b ≠ q) : cE ar (nA S q kd n) b = cE ar S b := by
  simp only [cE, va_up_ne _ _ h]
theorem cW_push {ar : Nat → ClassId} {S S' : CS} {q : Nat} {e : va_E} (hq : q ∉ S.1) (hL : S'.1 = S.1 ++ [q]) (ha : cE ar S' q = e) (ho : ∀ b, b ≠ q → cE ar S' b = cE ar S b) : cW ar S ++ [(q, e)] = cW ar S' := by
  show va_pl S.1 (cE ar S) ++ [(q, e)] = va_pl S'.1 (cE ar S')
  rw [va_pl_push hq, hL]
  exact va_pl_congr (fun b => by
    by_cases hb : b = q
    · subst hb
      rw [ha]; simp [va_up]
    · rw [ho b hb]; simp [va_up, hb])
theorem cW_fresh {ar : Nat → ClassId} {S : CS} {A : Nat → Prop} {q : Nat} {e : va_E} (hD : va_D A (cW ar S ++ [(q, e)])) : q ∉ S.1 := va_pl_fresh2 (X := []) hD
theorem gX0 : ∀ w ∈ u_ws RX0 TX0 9, w ∈ gtbl := by decide +kernel
theorem gX1 : ∀ w ∈ u_ws RX1 TX1 4, w ∈ gtbl := by decide +kernel
theorem gX2 : ∀ w ∈ u_ws RX2 TX2 9, w ∈ gtbl := by decide +kernel
theorem gX3 : ∀ w ∈ u_ws RX3 TX3 5, w ∈ gtbl := by decide +kernel
theorem gX4 : ∀ w ∈ u_ws RX4 TX4 11, w ∈ gtbl := by decide +kernel
theorem gJx4a65c : ∀ w ∈ u_ws RJx4a65c TJx4a65c 3, w ∈ gtbl := by decide +kernel
theorem upr_n {R : Nat → Nat → Option Nat} {f g a : Nat} {v : Option Nat} (h : g ≠ f) : upr R f a v g = R g := if_neg h
theorem fit01 {v : Int32} (h : v = 0 ∨ v = 1) : fits .boolean (.int v) = true := by
  rcases h with rfl | rfl <;> rfl
/-- a constructor's context -/
def CxI (own : String) (cc : ByteArray) (nL : Nat) (D : va_G) (ar : Nat → ClassId) (X : XT) (R : Room) (j : jT) : Prop :=
  ∃ (p : Program) (l : Launch) (e : Env) (s : State) (m : MethodId) (args : Array Value) (below : List Frame) (meth : Method) (c : Code) (A : Nat → Prop) (Q : State → Prop), Cz own cc nL D ar X p s m args meth c A ∧ meth.name = "<init>" ∧ j = JJ p l e R s m args below meth c A D nL Q
theorem Cn.ofI {own : String} {D : va_G} {ar : Nat → ClassId} {X : XT} {y : MethodName} {cc : ByteArray} {nL : Nat} {ret : Option FieldType} {fr lo mc ms : Nat} {av : List Value} {ws : va_W} {Ret : Option Value → va_W → Prop} (hX : Xok X) (hy : plainName y.cls = true) (ho : y.cls = own) (hn : y.name = "<init>") (hv : (lg_sl av).length ≤ nL)
    (body : ∀ j : jT, Cx own cc nL D ar X (rmOf fr lo mc ms) ret Ret j → CxI own cc nL D ar X (rmOf fr lo mc ms) j → j ws 0 0 0 (lv_args 0 av) []) : Cn D ar X y cc nL ret fr lo mc ms av ws Ret := by
  intro l sz
  refine Met.ofW (cc := cc) (maxL := nL) (ret := ret) hy rfl ?_
  intro p e s m args below meth c s₁ B hml hpc
  obtain ⟨rfl, rfl, hP, hK, hD0, hXs⟩ := hpc
  have hts := atoms_spec (ws := Cond.code y cc nL ret :: gtbl) B.pre
  have hown : s.vm.findClass own = some m.cls := by rw [← ho]; exact findClass_of_methodNamed B.named
  have hin : meth.name = "<init>" := by rw [← hn]; exact (name_of_methodNamed B.named B.method).1
  have hz : Cz own cc nL D ar X p s m av.toArray meth c (va_A ws s.heap.size) := ⟨B.exec, B.bytes, hml, hown, fun w hw => hts w (List.mem_cons_of_mem _ hw), hK, fun q h => Or.inr h, hX, hXs⟩
  rw [lg_entry_eq]
  exact body (JJ p l e (rmOf fr lo mc ms) s m av.toArray below meth c (va_A ws s.heap.size) D nL (MQ below (Qn D Ret (va_A ws s.heap.size)) av.toArray s mc ms (va_A ws s.heap.size))) ⟨p, l, e, s, m, av.toArray, below, meth, c, va_A ws s.heap.size, hz, B.returns, B.notSynchronized, rfl⟩ ⟨p, l, e, s, m, av.toArray, below, meth, c, va_A ws s.heap.size, _, hz, hin, rfl⟩ s.heap [] _ hP (hD0.self (sz := s.heap.size)) va_S.rf (lv_entry av hv)
section CR
variable {own : String} {cc : ByteArray} {nL : Nat} {D : va_G} {ar : Nat → ClassId} {X : XT} {R9 : Room} {j : jT}
variable {S : CS} {k n : Nat} {lv : List (Nat × Value)} {st : List Value}
theorem cgI_0 (C : Cx0 own cc nL D ar X R9 j) (pc : Nat) {ix a : Nat} (hw : Cond.fieldLink own ix "EggHouse$Egg" "number" "I" ∈ gtbl) (ha : Is S a 0) (hd : decode cc pc = .ok (.getfield ix, 3)) (kk : j (cW ar S) k n (pc + 3) lv (.int (S.2.2.2.1 0 a) :: st)) : j (cW ar S) k n pc lv (.ref a :: st) := by
  obtain ⟨p, l, e, s, m, args, below, meth, c, A, Q, ⟨hx, hb, hml, hown, hts, hK, hA, hX, hXs⟩, rfl⟩ := C
  intro H locs ls hP hD hS hl
  obtain ⟨q, hq⟩ := cW_get ha.1 (cE_0 (ar := ar) ha.2)
  exact va_get (D := D) (ci := 0) (C := RX0) (T := TX0) (N := 9) hx hb hts gX0 hown hK hP q hq rfl 0 (by decide) (hts _ hw) (fun _ h9 => h9) rfl hd (kk H locs ls hP hD hS hl)
theorem cpI_0 (C : CxI RX0 cc nL D ar X R9 j) (pc : Nat) {ix a : Nat} {v : Int32} (hw : Cond.fieldLink RX0 ix "EggHouse$Egg" "number" "I" ∈ gtbl) (ha : Is S a 0) (hd : decode cc pc = .ok (.putfield ix, 3)) (kk : j (cW ar (uI S 0 a v)) k n (pc + 3) lv st) : j (cW ar S) k n pc lv (.int v :: .ref a :: st) := by
  obtain ⟨p, l, e, s, m, args, below, meth, c, A, Q, ⟨hx, hb, hml, hown, hts, hK, hA, hX, hXs⟩, hin, rfl⟩ := C
  intro H locs ls hP hD hS hl
  have h0 := cE_0 (ar := ar) ha.2
  obtain ⟨q, hq⟩ := cW_get ha.1 h0
  refine va_putF (D := D) (ci := 0) (v := .int v) (ty := .int) (C := RX0) (T := TX0) (N := 9) hx hb hts gX0 tyX0 tyX0_ok nmX0 hown hK hP hD hS q hq rfl 0 (by decide) (hts _ hw) (fun _ h9 => h9) rfl hin rfl (by decide +kernel) rfl rfl (Nat.le_of_ble_eq_true rfl) hd (fun H locs hP hD1 hS => ?_)
  rw [cW_set (S' := uI S 0 a v) hD ha.1 hq h0 rfl ((cE_0 (S := uI S 0 a v) ha.2).trans (by simp (decide := true) [up2_e, up2_n, va_rf])) (fun b hb => cE_oI hb)] at hP hD1
  exact kk H locs ls hP hD1 hS hl
theorem cgI_1 (C : Cx0 own cc nL D ar X R9 j) (pc : Nat) {ix a : Nat} (hw : Cond.fieldLink own ix "EggHouse$Egg" "barn" "I" ∈ gtbl) (ha : Is S a 0) (hd : decode cc pc = .ok (.getfield ix, 3)) (kk : j (cW ar S) k n (pc + 3) lv (.int (S.2.2.2.1 1 a) :: st)) : j (cW ar S) k n pc lv (.ref a :: st) := by
  obtain ⟨p, l, e, s, m, args, below, meth, c, A, Q, ⟨hx, hb, hml, hown, hts, hK, hA, hX, hXs⟩, rfl⟩ := C
  intro H locs ls hP hD hS hl
  obtain ⟨q, hq⟩ := cW_get ha.1 (cE_0 (ar := ar) ha.2)
  exact va_get (D := D) (ci := 0) (C := RX0) (T := TX0) (N := 9) hx hb hts gX0 hown hK hP q hq rfl 1 (by decide) (hts _ hw) (fun _ h9 => h9) rfl hd (kk H locs ls hP hD hS hl)
theorem cpI_1 (C : CxI RX0 cc nL D ar X R9 j) (pc : Nat) {ix a : Nat} {v : Int32} (hw : Cond.fieldLink RX0 ix "EggHouse$Egg" "barn" "I" ∈ gtbl) (ha : Is S a 0) (hd : decode cc pc = .ok (.putfield ix, 3)) (kk : j (cW ar (uI S 1 a v)) k n (pc + 3) lv st) : j (cW ar S) k n pc lv (.int v :: .ref a :: st) := by
  obtain ⟨p, l, e, s, m, args, below, meth, c, A, Q, ⟨hx, hb, hml, hown, hts, hK, hA, hX, hXs⟩, hin, rfl⟩ := C
  intro H locs ls hP hD hS hl
  have h0 := cE_0 (ar := ar) ha.2
  obtain ⟨q, hq⟩ := cW_get ha.1 h0
  refine va_putF (D := D) (ci := 0) (v := .int v) (ty := .int) (C := RX0) (T := TX0) (N := 9) hx hb hts gX0 tyX0 tyX0_ok nmX0 hown hK hP hD hS q hq rfl 1 (by decide) (hts _ hw) (fun _ h9 => h9) rfl hin rfl (by decide +kernel) rfl rfl (Nat.le_of_ble_eq_true rfl) hd (fun H locs hP hD1 hS => ?_)
  rw [cW_set (S' := uI S 1 a v) hD ha.1 hq h0 rfl ((cE_0 (S := uI S 1 a v) ha.2).trans (by simp (decide := true) [up2_e, up2_n, va_rf])) (fun b hb => cE_oI hb)] at hP hD1
  exact kk H locs ls hP hD1 hS hl
theorem cgI_2 (C : Cx0 own cc nL D ar X R9 j) (pc : Nat) {ix a : Nat} (hw : Cond.fieldLink own ix "EggHouse$Egg" "weight" "I" ∈ gtbl) (ha : Is S a 0) (hd : decode cc pc = .ok (.getfield ix, 3)) (kk : j (cW ar S) k n (pc + 3) lv (.int (S.2.2.2.1 2 a) :: st)) : j (cW ar S) k n pc lv (.ref a :: st) := by
  obtain ⟨p, l, e, s, m, args, below, meth, c, A, Q, ⟨hx, hb, hml, hown, hts, hK, hA, hX, hXs⟩, rfl⟩ := C
  intro H locs ls hP hD hS hl
  obtain ⟨q, hq⟩ := cW_get ha.1 (cE_0 (ar := ar) ha.2)
  exact va_get (D := D) (ci := 0) (C := RX0) (T := TX0) (N := 9) hx hb hts gX0 hown hK hP q hq rfl 2 (by decide) (hts _ hw) (fun _ h9 => h9) rfl hd (kk H locs ls hP hD hS hl)
theorem cpI_2 (C : CxI RX0 cc nL D ar X R9 j) (pc : Nat) {ix a : Nat} {v : Int32} (hw : Cond.fieldLink RX0 ix "EggHouse$Egg" "weight" "I" ∈ gtbl) (ha : Is S a 0) (hd : decode cc pc = .ok (.putfield ix, 3)) (kk : j (cW ar (uI S 2 a v)) k n (pc + 3) lv st) : j (cW ar S) k n pc lv (.int v :: .ref a :: st) := by
  obtain ⟨p, l, e, s, m, args, below, meth, c, A, Q, ⟨hx, hb, hml, hown, hts, hK, hA, hX, hXs⟩, hin, rfl⟩ := C
  intro H locs ls hP hD hS hl
  have h0 := cE_0 (ar := ar) ha.2
  obtain ⟨q, hq⟩ := cW_get ha.1 h0
  refine va_putF (D := D) (ci := 0) (v := .int v) (ty := .int) (C := RX0) (T := TX0) (N := 9) hx hb hts gX0 tyX0 tyX0_ok nmX0 hown hK hP hD hS q hq rfl 2 (by decide) (hts _ hw) (fun _ h9 => h9) rfl hin rfl (by decide +kernel) rfl rfl (Nat.le_of_ble_eq_true rfl) hd (fun H locs hP hD1 hS => ?_)
  rw [cW_set (S' := uI S 2 a v) hD ha.1 hq h0 rfl ((cE_0 (S := uI S 2 a v) ha.2).trans (by simp (decide := true) [up2_e, up2_n, va_rf])) (fun b hb => cE_oI hb)] at hP hD1
  exact kk H locs ls hP hD1 hS hl
theorem cgI_3 (C : Cx0 own cc nL D ar X R9 j) (pc : Nat) {ix a : Nat} (hw : Cond.fieldLink own ix "EggHouse$Egg" "taps" "I" ∈ gtbl) (ha : Is S a 0) (hd : decode cc pc = .ok (.getfield ix, 3)) (kk : j (cW ar S) k n (pc + 3) lv (.int (S.2.2.2.1 3 a) :: st)) : j (cW ar S) k n pc lv (.ref a :: st) := by
  obtain ⟨p, l, e, s, m, args, below, meth, c, A, Q, ⟨hx, hb, hml, hown, hts, hK, hA, hX, hXs⟩, rfl⟩ := C
  intro H locs ls hP hD hS hl
  obtain ⟨q, hq⟩ := cW_get ha.1 (cE_0 (ar := ar) ha.2)
  exact va_get (D := D) (ci := 0) (C := RX0) (T := TX0) (N := 9) hx hb hts gX0 hown hK hP q hq rfl 3 (by decide) (hts _ hw) (fun _ h9 => h9) rfl hd (kk H locs ls hP hD hS hl)
theorem cpI_3 (C : CxI RX0 cc nL D ar X R9 j) (pc : Nat) {ix a : Nat} {v : Int32} (hw : Cond.fieldLink RX0 ix "EggHouse$Egg" "taps" "I" ∈ gtbl) (ha : Is S a 0) (hd : decode cc pc = .ok (.putfield ix, 3)) (kk : j (cW ar (uI S 3 a v)) k n (pc + 3) lv st) : j (cW ar S) k n pc lv (.int v :: .ref a :: st) := by
  obtain ⟨p, l, e, s, m, args, below, meth, c, A, Q, ⟨hx, hb, hml, hown, hts, hK, hA, hX, hXs⟩, hin, rfl⟩ := C
  intro H locs ls hP hD hS hl
  have h0 := cE_0 (ar := ar) ha.2
  obtain ⟨q, hq⟩ := cW_get ha.1 h0
  refine va_putF (D := D) (ci := 0) (v := .int v) (ty := .int) (C := RX0) (T := TX0) (N := 9) hx hb hts gX0 tyX0 tyX0_ok nmX0 hown hK hP hD hS q hq rfl 3 (by decide) (hts _ hw) (fun _ h9 => h9) rfl hin rfl (by decide +kernel) rfl rfl (Nat.le_of_ble_eq_true rfl) hd (fun H locs hP hD1 hS => ?_)
  rw [cW_set (S' := uI S 3 a v) hD ha.1 hq h0 rfl ((cE_0 (S := uI S 3 a v) ha.2).trans (by simp (decide := true) [up2_e, up2_n, va_rf])) (fun b hb => cE_oI hb)] at hP hD1
  exact kk H locs ls hP hD1 hS hl
theorem cgI_4 (C : Cx0 own cc nL D ar X R9 j) (pc : Nat) {ix a : Nat} (hw : Cond.fieldLink own ix "EggHouse$Egg" "blood" "I" ∈ gtbl) (ha : Is S a 0) (hd : decode cc pc = .ok (.getfield ix, 3)) (kk : j (cW ar S) k n (pc + 3) lv (.int (S.2.2.2.1 4 a) :: st)) : j (cW ar S) k n pc lv (.ref a :: st) := by
  obtain ⟨p, l, e, s, m, args, below, meth, c, A, Q, ⟨hx, hb, hml, hown, hts, hK, hA, hX, hXs⟩, rfl⟩ := C
  intro H locs ls hP hD hS hl
  obtain ⟨q, hq⟩ := cW_get ha.1 (cE_0 (ar := ar) ha.2)
  exact va_get (D := D) (ci := 0) (C := RX0) (T := TX0) (N := 9) hx hb hts gX0 hown hK hP q hq rfl 4 (by decide) (hts _ hw) (fun _ h9 => h9) rfl hd (kk H locs ls hP hD hS hl)
theorem cpI_4 (C : CxI RX0 cc nL D ar X R9 j) (pc : Nat) {ix a : Nat} {v : Int32} (hw : Cond.fieldLink RX0 ix "EggHouse$Egg" "blood" "I" ∈ gtbl) (ha : Is S a 0) (hd : decode cc pc = .ok (.putfield ix, 3)) (kk : j (cW ar (uI S 4 a v)) k n (pc + 3) lv st) : j (cW ar S) k n pc lv (.int v :: .ref a :: st) := by
  obtain ⟨p, l, e, s, m, args, below, meth, c, A, Q, ⟨hx, hb, hml, hown, hts, hK, hA, hX, hXs⟩, hin, rfl⟩ := C
  intro H locs ls hP hD hS hl
  have h0 := cE_0 (ar := ar) ha.2
  obtain ⟨q, hq⟩ := cW_get ha.1 h0
  refine va_putF (D := D) (ci := 0) (v := .int v) (ty := .int) (C := RX0) (T := TX0) (N := 9) hx hb hts gX0 tyX0 tyX0_ok nmX0 hown hK hP hD hS q hq rfl 4 (by decide) (hts _ hw) (fun _ h9 => h9) rfl hin rfl (by decide +kernel) rfl rfl (Nat.le_of_ble_eq_true rfl) hd (fun H locs hP hD1 hS => ?_)
  rw [cW_set (S' := uI S 4 a v) hD ha.1 hq h0 rfl ((cE_0 (S := uI S 4 a v) ha.2).trans (by simp (decide := true) [up2_e, up2_n, va_rf])) (fun b hb => cE_oI hb)] at hP hD1
  exact kk H locs ls hP hD1 hS hl
theorem cgI_5 (C : Cx0 own cc nL D ar X R9 j) (pc : Nat) {ix a : Nat} (hw : Cond.fieldLink own ix "EggHouse$Egg" "dirt" "I" ∈ gtbl) (ha : Is S a 0) (hd : decode cc pc = .ok (.getfield ix, 3)) (kk : j (cW ar S) k n (pc + 3) lv (.int (S.2.2.2.1 5 a) :: st)) : j (cW ar S) k n pc lv (.ref a :: st) := by
  obtain ⟨p, l, e, s, m, args, below, meth, c, A, Q, ⟨hx, hb, hml, hown, hts, hK, hA, hX, hXs⟩, rfl⟩ := C
  intro H locs ls hP hD hS hl
  obtain ⟨q, hq⟩ := cW_get ha.1 (cE_0 (ar := ar) ha.2)
  exact va_get (D := D) (ci := 0) (C := RX0) (T := TX0) (N := 9) hx hb hts gX0 hown hK hP q hq rfl 5 (by decide) (hts _ hw) (fun _ h9 => h9) rfl hd (kk H locs ls hP hD hS hl)
theorem cpI_5 (C : Cx0 own cc nL D ar X R9 j) (pc : Nat) {ix a : Nat} {v : Int32} (hw : Cond.fieldLink own ix "EggHouse$Egg" "dirt" "I" ∈ gtbl) (ha : Is S a 0) (hd : decode cc pc = .ok (.putfield ix, 3)) (kk : j (cW ar (uI S 5 a v)) k n (pc + 3) lv st) : j (cW ar S) k n pc lv (.int v :: .ref a :: st) := by
  obtain ⟨p, l, e, s, m, args, below, meth, c, A, Q, ⟨hx, hb, hml, hown, hts, hK, hA, hX, hXs⟩, rfl⟩ := C
  intro H locs ls hP hD hS hl
  have h0 := cE_0 (ar := ar) ha.2
  obtain ⟨q, hq⟩ := cW_get ha.1 h0
  refine va_put (D := D) (ci := 0) (v := .int v) (ty := .int) (C := RX0) (T := TX0) (N := 9) hx hb hts gX0 tyX0 tyX0_ok nmX0 hown hK hP hD hS q hq rfl 5 (by decide) (hts _ hw) (fun _ h9 => h9) rfl (by decide +kernel) rfl rfl (Nat.le_of_ble_eq_true rfl) hd (fun H locs hP hD1 hS => ?_)
  rw [cW_set (S' := uI S 5 a v) hD ha.1 hq h0 rfl ((cE_0 (S := uI S 5 a v) ha.2).trans (by simp (decide := true) [up2_e, up2_n, va_rf])) (fun b hb => cE_oI hb)] at hP hD1
  exact kk H locs ls hP hD1 hS hl
theorem cgI_6 (C : Cx0 own cc nL D ar X R9 j) (pc : Nat) {ix a : Nat} (hw : Cond.fieldLink own ix "EggHouse$Egg" "scaleTold" "I" ∈ gtbl) (ha : Is S a 0) (hd : decode cc pc = .ok (.getfield ix, 3)) (kk : j (cW ar S) k n (pc + 3) lv (.int (S.2.2.2.1 6 a) :: st)) : j (cW ar S) k n pc lv (.ref a :: st) := by
  obtain ⟨p, l, e, s, m, args, below, meth, c, A, Q, ⟨hx, hb, hml, hown, hts, hK, hA, hX, hXs⟩, rfl⟩ := C
  intro H locs ls hP hD hS hl
  obtain ⟨q, hq⟩ := cW_get ha.1 (cE_0 (ar := ar) ha.2)
  exact va_get (D := D) (ci := 0) (C := RX0) (T := TX0) (N := 9) hx hb hts gX0 hown hK hP q hq rfl 6 (by decide) (hts _ hw) (fun _ h9 => h9) rfl hd (kk H locs ls hP hD hS hl)
theorem cpI_6 (C : Cx0 own cc nL D ar X R9 j) (pc : Nat) {ix a : Nat} {v : Int32} (hw : Cond.fieldLink own ix "EggHouse$Egg" "scaleTold" "I" ∈ gtbl) (ha : Is S a 0) (hd : decode cc pc = .ok (.putfield ix, 3)) (kk : j (cW ar (uI S 6 a v)) k n (pc + 3) lv st) : j (cW ar S) k n pc lv (.int v :: .ref a :: st) := by
  obtain ⟨p, l, e, s, m, args, below, meth, c, A, Q, ⟨hx, hb, hml, hown, hts, hK, hA, hX, hXs⟩, rfl⟩ := C
  intro H locs ls hP hD hS hl
  have h0 := cE_0 (ar := ar) ha.2
  obtain ⟨q, hq⟩ := cW_get ha.1 h0
  refine va_put (D := D) (ci := 0) (v := .int v) (ty := .int) (C := RX0) (T := TX0) (N := 9) hx hb hts gX0 tyX0 tyX0_ok nmX0 hown hK hP hD hS q hq rfl 6 (by decide) (hts _ hw) (fun _ h9 => h9) rfl (by decide +kernel) rfl rfl (Nat.le_of_ble_eq_true rfl) hd (fun H locs hP hD1 hS => ?_)
  rw [cW_set (S' := uI S 6 a v) hD ha.1 hq h0 rfl ((cE_0 (S := uI S 6 a v) ha.2).trans (by simp (decide := true) [up2_e, up2_n, va_rf])) (fun b hb => cE_oI hb)] at hP hD1
  exact kk H locs ls hP hD1 hS hl
theorem cgI_7 (C : Cx0 own cc nL D ar X R9 j) (pc : Nat) {ix a : Nat} (hw : Cond.fieldLink own ix "EggHouse$Egg" "weighedAt" "I" ∈ gtbl) (ha : Is S a 0) (hd : decode cc pc = .ok (.getfield ix, 3)) (kk : j (cW ar S) k n (pc + 3) lv (.int (S.2.2.2.1 7 a) :: st)) : j (cW ar S) k n pc lv (.ref a :: st) := by
  obtain ⟨p, l, e, s, m, args, below, meth, c, A, Q, ⟨hx, hb, hml, hown, hts, hK, hA, hX, hXs⟩, rfl⟩ := C
  intro H locs ls hP hD hS hl
  obtain ⟨q, hq⟩ := cW_get ha.1 (cE_0 (ar := ar) ha.2)
  exact va_get (D := D) (ci := 0) (C := RX0) (T := TX0) (N := 9) hx hb hts gX0 hown hK hP q hq rfl 7 (by decide) (hts _ hw) (fun _ h9 => h9) rfl hd (kk H locs ls hP hD hS hl)
theorem cpI_7 (C : Cx0 own cc nL D ar X R9 j) (pc : Nat) {ix a : Nat} {v : Int32} (hw : Cond.fieldLink own ix "EggHouse$Egg" "weighedAt" "I" ∈ gtbl) (ha : Is S a 0) (hd : decode cc pc = .ok (.putfield ix, 3)) (kk : j (cW ar (uI S 7 a v)) k n (pc + 3) lv st) : j (cW ar S) k n pc lv (.int v :: .ref a :: st) := by
  obtain ⟨p, l, e, s, m, args, below, meth, c, A, Q, ⟨hx, hb, hml, hown, hts, hK, hA, hX, hXs⟩, rfl⟩ := C
  intro H locs ls hP hD hS hl
  have h0 := cE_0 (ar := ar) ha.2
  obtain ⟨q, hq⟩ := cW_get ha.1 h0
  refine va_put (D := D) (ci := 0) (v := .int v) (ty := .int) (C := RX0) (T := TX0) (N := 9) hx hb hts gX0 tyX0 tyX0_ok nmX0 hown hK hP hD hS q hq rfl 7 (by decide) (hts _ hw) (fun _ h9 => h9) rfl (by decide +kernel) rfl rfl (Nat.le_of_ble_eq_true rfl) hd (fun H locs hP hD1 hS => ?_)
  rw [cW_set (S' := uI S 7 a v) hD ha.1 hq h0 rfl ((cE_0 (S := uI S 7 a v) ha.2).trans (by simp (decide := true) [up2_e, up2_n, va_rf])) (fun b hb => cE_oI hb)] at hP hD1
  exact kk H locs ls hP hD1 hS hl
theorem cgI_8 (C : Cx0 own cc nL D ar X R9 j) (pc : Nat) {ix a : Nat} (hw : Cond.fieldLink own ix "EggHouse$Egg" "washedAt" "I" ∈ gtbl) (ha : Is S a 0) (hd : decode cc pc = .ok (.getfield ix, 3)) (kk : j (cW ar S) k n (pc + 3) lv (.int (S.2.2.2.1 8 a) :: st)) : j (cW ar S) k n pc lv (.ref a :: st) := by
  obtain ⟨p, l, e, s, m, args, below, meth, c, A, Q, ⟨hx, hb, hml, hown, hts, hK, hA, hX, hXs⟩, rfl⟩ := C
  intro H locs ls hP hD hS hl
  obtain ⟨q, hq⟩ := cW_get ha.1 (cE_0 (ar := ar) ha.2)
  exact va_get (D := D) (ci := 0) (C := RX0) (T := TX0) (N := 9) hx hb hts gX0 hown hK hP q hq rfl 8 (by decide) (hts _ hw) (fun _ h9 => h9) rfl hd (kk H locs ls hP hD hS hl)
theorem cpI_8 (C : Cx0 own cc nL D ar X R9 j) (pc : Nat) {ix a : Nat} {v : Int32} (hw : Cond.fieldLink own ix "EggHouse$Egg" "washedAt" "I" ∈ gtbl) (ha : Is S a 0) (hd : decode cc pc = .ok (.putfield ix, 3)) (kk : j (cW ar (uI S 8 a v)) k n (pc + 3) lv st) : j (cW ar S) k n pc lv (.int v :: .ref a :: st) := by
  obtain ⟨p, l, e, s, m, args, below, meth, c, A, Q, ⟨hx, hb, hml, hown, hts, hK, hA, hX, hXs⟩, rfl⟩ := C
  intro H locs ls hP hD hS hl
  have h0 := cE_0 (ar := ar) ha.2
  obtain ⟨q, hq⟩ := cW_get ha.1 h0
  refine va_put (D := D) (ci := 0) (v := .int v) (ty := .int) (C := RX0) (T := TX0) (N := 9) hx hb hts gX0 tyX0 tyX0_ok nmX0 hown hK hP hD hS q hq rfl 8 (by decide) (hts _ hw) (fun _ h9 => h9) rfl (by decide +kernel) rfl rfl (Nat.le_of_ble_eq_true rfl) hd (fun H locs hP hD1 hS => ?_)
  rw [cW_set (S' := uI S 8 a v) hD ha.1 hq h0 rfl ((cE_0 (S := uI S 8 a v) ha.2).trans (by simp (decide := true) [up2_e, up2_n, va_rf])) (fun b hb => cE_oI hb)] at hP hD1
  exact kk H locs ls hP hD1 hS hl
theorem cgI_10 (C : Cx0 own cc nL D ar X R9 j) (pc : Nat) {ix a : Nat} (hw : Cond.fieldLink own ix "EggHouse$Order" "grade" "I" ∈ gtbl) (ha : Is S a 1) (hd : decode cc pc = .ok (.getfield ix, 3)) (kk : j (cW ar S) k n (pc + 3) lv (.int (S.2.2.2.1 10 a) :: st)) : j (cW ar S) k n pc lv (.ref a :: st) := by
  obtain ⟨p, l, e, s, m, args, below, meth, c, A, Q, ⟨hx, hb, hml, hown, hts, hK, hA, hX, hXs⟩, rfl⟩ := C
  intro H locs ls hP hD hS hl
  obtain ⟨q, hq⟩ := cW_get ha.1 (cE_1 (ar := ar) ha.2)
  exact va_get (D := D) (ci := 1) (C := RX1) (T := TX1) (N := 4) hx hb hts gX1 hown hK hP q hq rfl 0 (by decide) (hts _ hw) (fun _ h9 => h9) rfl hd (kk H locs ls hP hD hS hl)
theorem cpI_10 (C : CxI RX1 cc nL D ar X R9 j) (pc : Nat) {ix a : Nat} {v : Int32} (hw : Cond.fieldLink RX1 ix "EggHouse$Order" "grade" "I" ∈ gtbl) (ha : Is S a 1) (hd : decode cc pc = .ok (.putfield ix, 3)) (kk : j (cW ar (uI S 10 a v)) k n (pc + 3) lv st) : j (cW ar S) k n pc lv (.int v :: .ref a :: st) := by
  obtain ⟨p, l, e, s, m, args, below, meth, c, A, Q, ⟨hx, hb, hml, hown, hts, hK, hA, hX, hXs⟩, hin, rfl⟩ := C
  intro H locs ls hP hD hS hl
  have h0 := cE_1 (ar := ar) ha.2
  obtain ⟨q, hq⟩ := cW_get ha.1 h0
  refine va_putF (D := D) (ci := 1) (v := .int v) (ty := .int) (C := RX1) (T := TX1) (N := 4) hx hb hts gX1 tyX1 tyX1_ok nmX1 hown hK hP hD hS q hq rfl 0 (by decide) (hts _ hw) (fun _ h9 => h9) rfl hin rfl (by decide +kernel) rfl rfl (Nat.le_of_ble_eq_true rfl) hd (fun H locs hP hD1 hS => ?_)
  rw [cW_set (S' := uI S 10 a v) hD ha.1 hq h0 rfl ((cE_1 (S := uI S 10 a v) ha.2).trans (by simp (decide := true) [up2_e, up2_n, va_rf])) (fun b hb => cE_oI hb)] at hP hD1
  exact kk H locs ls hP hD1 hS hl
theorem cgI_11 (C : Cx0 own cc nL D ar X R9 j) (pc : Nat) {ix a : Nat} (hw : Cond.fieldLink own ix "EggHouse$Order" "wanted" "I" ∈ gtbl) (ha : Is S a 1) (hd : decode cc pc = .ok (.getfield ix, 3)) (kk : j (cW ar S) k n (pc + 3) lv (.int (S.2.2.2.1 11 a) :: st)) : j (cW ar S) k n pc lv (.ref a :: st) := by
  obtain ⟨p, l, e, s, m, args, below, meth, c, A, Q, ⟨hx, hb, hml, hown, hts, hK, hA, hX, hXs⟩, rfl⟩ := C
  intro H locs ls hP hD hS hl
  obtain ⟨q, hq⟩ := cW_get ha.1 (cE_1 (ar := ar) ha.2)
  exact va_get (D := D) (ci := 1) (C := RX1) (T := TX1) (N := 4) hx hb hts gX1 hown hK hP q hq rfl 1 (by decide) (hts _ hw) (fun _ h9 => h9) rfl hd (kk H locs ls hP hD hS hl)
theorem cpI_11 (C : CxI RX1 cc nL D ar X R9 j) (pc : Nat) {ix a : Nat} {v : Int32} (hw : Cond.fieldLink RX1 ix "EggHouse$Order" "wanted" "I" ∈ gtbl) (ha : Is S a 1) (hd : decode cc pc = .ok (.putfield ix, 3)) (kk : j (cW ar (uI S 11 a v)) k n (pc + 3) lv st) : j (cW ar S) k n pc lv (.int v :: .ref a :: st) := by
  obtain ⟨p, l, e, s, m, args, below, meth, c, A, Q, ⟨hx, hb, hml, hown, hts, hK, hA, hX, hXs⟩, hin, rfl⟩ := C
  intro H locs ls hP hD hS hl
  have h0 := cE_1 (ar := ar) ha.2
  obtain ⟨q, hq⟩ := cW_get ha.1 h0
  refine va_putF (D := D) (ci := 1) (v := .int v) (ty := .int) (C := RX1) (T := TX1) (N := 4) hx hb hts gX1 tyX1 tyX1_ok nmX1 hown hK hP hD hS q hq rfl 1 (by decide) (hts _ hw) (fun _ h9 => h9) rfl hin rfl (by decide +kernel) rfl rfl (Nat.le_of_ble_eq_true rfl) hd (fun H locs hP hD1 hS => ?_)
  rw [cW_set (S' := uI S 11 a v) hD ha.1 hq h0 rfl ((cE_1 (S := uI S 11 a v) ha.2).trans (by simp (decide := true) [up2_e, up2_n, va_rf])) (fun b hb => cE_oI hb)] at hP hD1
  exact kk H locs ls hP hD1 hS hl
theorem cgI_12 (C : Cx0 own cc nL D ar X R9 j) (pc : Nat) {ix a : Nat} (hw : Cond.fieldLink own ix "EggHouse$Order" "worth" "I" ∈ gtbl) (ha : Is S a 1) (hd : decode cc pc = .ok (.getfield ix, 3)) (kk : j (cW ar S) k n (pc + 3) lv (.int (S.2.2.2.1 12 a) :: st)) : j (cW ar S) k n pc lv (.ref a :: st) := by
  obtain ⟨p, l, e, s, m, args, below, meth, c, A, Q, ⟨hx, hb, hml, hown, hts, hK, hA, hX, hXs⟩, rfl⟩ := C
  intro H locs ls hP hD hS hl
  obtain ⟨q, hq⟩ := cW_get ha.1 (cE_1 (ar := ar) ha.2)
  exact va_get (D := D) (ci := 1) (C := RX1) (T := TX1) (N := 4) hx hb hts gX1 hown hK hP q hq rfl 2 (by decide) (hts _ hw) (fun _ h9 => h9) rfl hd (kk H locs ls hP hD hS hl)
theorem cpI_12 (C : CxI RX1 cc nL D ar X R9 j) (pc : Nat) {ix a : Nat} {v : Int32} (hw : Cond.fieldLink RX1 ix "EggHouse$Order" "worth" "I" ∈ gtbl) (ha : Is S a 1) (hd : decode cc pc = .ok (.putfield ix, 3)) (kk : j (cW ar (uI S 12 a v)) k n (pc + 3) lv st) : j (cW ar S) k n pc lv (.int v :: .ref a :: st) := by
  obtain ⟨p, l, e, s, m, args, below, meth, c, A, Q, ⟨hx, hb, hml, hown, hts, hK, hA, hX, hXs⟩, hin, rfl⟩ := C
  intro H locs ls hP hD hS hl
  have h0 := cE_1 (ar := ar) ha.2
  obtain ⟨q, hq⟩ := cW_get ha.1 h0
  refine va_putF (D := D) (ci := 1) (v := .int v) (ty := .int) (C := RX1) (T := TX1) (N := 4) hx hb hts gX1 tyX1 tyX1_ok nmX1 hown hK hP hD hS q hq rfl 2 (by decide) (hts _ hw) (fun _ h9 => h9) rfl hin rfl (by decide +kernel) rfl rfl (Nat.le_of_ble_eq_true rfl) hd (fun H locs hP hD1 hS => ?_)
  rw [cW_set (S' := uI S 12 a v) hD ha.1 hq h0 rfl ((cE_1 (S := uI S 12 a v) ha.2).trans (by simp (decide := true) [up2_e, up2_n, va_rf])) (fun b hb => cE_oI hb)] at hP hD1
  exact kk H locs ls hP hD1 hS hl
theorem cgI_13 (C : Cx0 own cc nL D ar X R9 j) (pc : Nat) {ix a : Nat} (hw : Cond.fieldLink own ix "EggHouse$Order" "served" "Z" ∈ gtbl) (ha : Is S a 1) (hd : decode cc pc = .ok (.getfield ix, 3)) (kk : j (cW ar S) k n (pc + 3) lv (.int (S.2.2.2.1 13 a) :: st)) : j (cW ar S) k n pc lv (.ref a :: st) := by
  obtain ⟨p, l, e, s, m, args, below, meth, c, A, Q, ⟨hx, hb, hml, hown, hts, hK, hA, hX, hXs⟩, rfl⟩ := C
  intro H locs ls hP hD hS hl
  obtain ⟨q, hq⟩ := cW_get ha.1 (cE_1 (ar := ar) ha.2)
  exact va_get (D := D) (ci := 1) (C := RX1) (T := TX1) (N := 4) hx hb hts gX1 hown hK hP q hq rfl 3 (by decide) (hts _ hw) (fun _ h9 => h9) rfl hd (kk H locs ls hP hD hS hl)
theorem cpI_13 (C : Cx0 own cc nL D ar X R9 j) (pc : Nat) {ix a : Nat} {v : Int32} (hz : v = 0 ∨ v = 1) (hw : Cond.fieldLink own ix "EggHouse$Order" "served" "Z" ∈ gtbl) (ha : Is S a 1) (hd : decode cc pc = .ok (.putfield ix, 3)) (kk : j (cW ar (uI S 13 a v)) k n (pc + 3) lv st) : j (cW ar S) k n pc lv (.int v :: .ref a :: st) := by
  obtain ⟨p, l, e, s, m, args, below, meth, c, A, Q, ⟨hx, hb, hml, hown, hts, hK, hA, hX, hXs⟩, rfl⟩ := C
  intro H locs ls hP hD hS hl
  have h0 := cE_1 (ar := ar) ha.2
  obtain ⟨q, hq⟩ := cW_get ha.1 h0
  refine va_put (D := D) (ci := 1) (v := .int v) (ty := .boolean) (C := RX1) (T := TX1) (N := 4) hx hb hts gX1 tyX1 tyX1_ok nmX1 hown hK hP hD hS q hq rfl 3 (by decide) (hts _ hw) (fun _ h9 => h9) rfl (by decide +kernel) (nar01 hz) (fit01 hz) (Nat.le_of_ble_eq_true rfl) hd (fun H locs hP hD1 hS => ?_)
  rw [cW_set (S' := uI S 13 a v) hD ha.1 hq h0 rfl ((cE_1 (S := uI S 13 a v) ha.2).trans (by simp (decide := true) [up2_e, up2_n, va_rf])) (fun b hb => cE_oI hb)] at hP hD1
  exact kk H locs ls hP hD1 hS hl
theorem cgI_20 (C : Cx0 own cc nL D ar X R9 j) (pc : Nat) {ix a : Nat} (hw : Cond.fieldLink own ix "EggHouse$Pack" "grade" "I" ∈ gtbl) (ha : Is S a 2) (hd : decode cc pc = .ok (.getfield ix, 3)) (kk : j (cW ar S) k n (pc + 3) lv (.int (S.2.2.2.1 20 a) :: st)) : j (cW ar S) k n pc lv (.ref a :: st) := by
  obtain ⟨p, l, e, s, m, args, below, meth, c, A, Q, ⟨hx, hb, hml, hown, hts, hK, hA, hX, hXs⟩, rfl⟩ := C
  intro H locs ls hP hD hS hl
  obtain ⟨q, hq⟩ := cW_get ha.1 (cE_2 (ar := ar) ha.2)
  exact va_get (D := D) (ci := 2) (C := RX2) (T := TX2) (N := 9) hx hb hts gX2 hown hK hP q hq rfl 0 (by decide) (hts _ hw) (fun _ h9 => h9) rfl hd (kk H locs ls hP hD hS hl)
theorem cpI_20 (C : Cx0 own cc nL D ar X R9 j) (pc : Nat) {ix a : Nat} {v : Int32} (hw : Cond.fieldLink own ix "EggHouse$Pack" "grade" "I" ∈ gtbl) (ha : Is S a 2) (hd : decode cc pc = .ok (.putfield ix, 3)) (kk : j (cW ar (uI S 20 a v)) k n (pc + 3) lv st) : j (cW ar S) k n pc lv (.int v :: .ref a :: st) := by
  obtain ⟨p, l, e, s, m, args, below, meth, c, A, Q, ⟨hx, hb, hml, hown, hts, hK, hA, hX, hXs⟩, rfl⟩ := C
  intro H locs ls hP hD hS hl
  have h0 := cE_2 (ar := ar) ha.2
  obtain ⟨q, hq⟩ := cW_get ha.1 h0
  refine va_put (D := D) (ci := 2) (v := .int v) (ty := .int) (C := RX2) (T := TX2) (N := 9) hx hb hts gX2 tyX2 tyX2_ok nmX2 hown hK hP hD hS q hq rfl 0 (by decide) (hts _ hw) (fun _ h9 => h9) rfl (by decide +kernel) rfl rfl (Nat.le_of_ble_eq_true rfl) hd (fun H locs hP hD1 hS => ?_)
  rw [cW_set (S' := uI S 20 a v) hD ha.1 hq h0 rfl ((cE_2 (S := uI S 20 a v) ha.2).trans (by simp (decide := true) [up2_e, up2_n, va_rf])) (fun b hb => cE_oI hb)] at hP hD1
  exact kk H locs ls hP hD1 hS hl
theorem cgI_21 (C : Cx0 own cc nL D ar X R9 j) (pc : Nat) {ix a : Nat} (hw : Cond.fieldLink own ix "EggHouse$Pack" "eggs" "I" ∈ gtbl) (ha : Is S a 2) (hd : decode cc pc = .ok (.getfield ix, 3)) (kk : j (cW ar S) k n (pc + 3) lv (.int (S.2.2.2.1 21 a) :: st)) : j (cW ar S) k n pc lv (.ref a :: st) := by
  obtain ⟨p, l, e, s, m, args, below, meth, c, A, Q, ⟨hx, hb, hml, hown, hts, hK, hA, hX, hXs⟩, rfl⟩ := C
  intro H locs ls hP hD hS hl
  obtain ⟨q, hq⟩ := cW_get ha.1 (cE_2 (ar := ar) ha.2)
  exact va_get (D := D) (ci := 2) (C := RX2) (T := TX2) (N := 9) hx hb hts gX2 hown hK hP q hq rfl 1 (by decide) (hts _ hw) (fun _ h9 => h9) rfl hd (kk H locs ls hP hD hS hl)
theorem cpI_21 (C : Cx0 own cc nL D ar X R9 j) (pc : Nat) {ix a : Nat} {v : Int32} (hw : Cond.fieldLink own ix "EggHouse$Pack" "eggs" "I" ∈ gtbl) (ha : Is S a 2) (hd : decode cc pc = .ok (.putfield ix, 3)) (kk : j (cW ar (uI S 21 a v)) k n (pc + 3) lv st) : j (cW ar S) k n pc lv (.int v :: .ref a :: st) := by
  obtain ⟨p, l, e, s, m, args, below, meth, c, A, Q, ⟨hx, hb, hml, hown, hts, hK, hA, hX, hXs⟩, rfl⟩ := C
  intro H locs ls hP hD hS hl
  have h0 := cE_2 (ar := ar) ha.2
  obtain ⟨q, hq⟩ := cW_get ha.1 h0
  refine va_put (D := D) (ci := 2) (v := .int v) (ty := .int) (C := RX2) (T := TX2) (N := 9) hx hb hts gX2 tyX2 tyX2_ok nmX2 hown hK hP hD hS q hq rfl 1 (by decide) (hts _ hw) (fun _ h9 => h9) rfl (by decide +kernel) rfl rfl (Nat.le_of_ble_eq_true rfl) hd (fun H locs hP hD1 hS => ?_)
  rw [cW_set (S' := uI S 21 a v) hD ha.1 hq h0 rfl ((cE_2 (S := uI S 21 a v) ha.2).trans (by simp (decide := true) [up2_e, up2_n, va_rf])) (fun b hb => cE_oI hb)] at hP hD1
  exact kk H locs ls hP hD1 hS hl
theorem cgI_22 (C : Cx0 own cc nL D ar X R9 j) (pc : Nat) {ix a : Nat} (hw : Cond.fieldLink own ix "EggHouse$Pack" "barns" "I" ∈ gtbl) (ha : Is S a 2) (hd : decode cc pc = .ok (.getfield ix, 3)) (kk : j (cW ar S) k n (pc + 3) lv (.int (S.2.2.2.1 22 a) :: st)) : j (cW ar S) k n pc lv (.ref a :: st) := by
  obtain ⟨p, l, e, s, m, args, below, meth, c, A, Q, ⟨hx, hb, hml, hown, hts, hK, hA, hX, hXs⟩, rfl⟩ := C
  intro H locs ls hP hD hS hl
  obtain ⟨q, hq⟩ := cW_get ha.1 (cE_2 (ar := ar) ha.2)
  exact va_get (D := D) (ci := 2) (C := RX2) (T := TX2) (N := 9) hx hb hts gX2 hown hK hP q hq rfl 2 (by decide) (hts _ hw) (fun _ h9 => h9) rfl hd (kk H locs ls hP hD hS hl)
theorem cpI_22 (C : Cx0 own cc nL D ar X R9 j) (pc : Nat) {ix a : Nat} {v : Int32} (hw : Cond.fieldLink own ix "EggHouse$Pack" "barns" "I" ∈ gtbl) (ha : Is S a 2) (hd : decode cc pc = .ok (.putfield ix, 3)) (kk : j (cW ar (uI S 22 a v)) k n (pc + 3) lv st) : j (cW ar S) k n pc lv (.int v :: .ref a :: st) := by
  obtain ⟨p, l, e, s, m, args, below, meth, c, A, Q, ⟨hx, hb, hml, hown, hts, hK, hA, hX, hXs⟩, rfl⟩ := C
  intro H locs ls hP hD hS hl
  have h0 := cE_2 (ar := ar) ha.2
  obtain ⟨q, hq⟩ := cW_get ha.1 h0
  refine va_put (D := D) (ci := 2) (v := .int v) (ty := .int) (C := RX2) (T := TX2) (N := 9) hx hb hts gX2 tyX2 tyX2_ok nmX2 hown hK hP hD hS q hq rfl 2 (by decide) (hts _ hw) (fun _ h9 => h9) rfl (by decide +kernel) rfl rfl (Nat.le_of_ble_eq_true rfl) hd (fun H locs hP hD1 hS => ?_)
  rw [cW_set (S' := uI S 22 a v) hD ha.1 hq h0 rfl ((cE_2 (S := uI S 22 a v) ha.2).trans (by simp (decide := true) [up2_e, up2_n, va_rf])) (fun b hb => cE_oI hb)] at hP hD1
  exact kk H locs ls hP hD1 hS hl
theorem cgI_23 (C : Cx0 own cc nL D ar X R9 j) (pc : Nat) {ix a : Nat} (hw : Cond.fieldLink own ix "EggHouse$Pack" "firstTick" "I" ∈ gtbl) (ha : Is S a 2) (hd : decode cc pc = .ok (.getfield ix, 3)) (kk : j (cW ar S) k n (pc + 3) lv (.int (S.2.2.2.1 23 a) :: st)) : j (cW ar S) k n pc lv (.ref a :: st) := by
  obtain ⟨p, l, e, s, m, args, below, meth, c, A, Q, ⟨hx, hb, hml, hown, hts, hK, hA, hX, hXs⟩, rfl⟩ := C
  intro H locs ls hP hD hS hl
  obtain ⟨q, hq⟩ := cW_get ha.1 (cE_2 (ar := ar) ha.2)
  exact va_get (D := D) (ci := 2) (C := RX2) (T := TX2) (N := 9) hx hb hts gX2 hown hK hP q hq rfl 3 (by decide) (hts _ hw) (fun _ h9 => h9) rfl hd (kk H locs ls hP hD hS hl)
theorem cpI_23 (C : Cx0 own cc nL D ar X R9 j) (pc : Nat) {ix a : Nat} {v : Int32} (hw : Cond.fieldLink own ix "EggHouse$Pack" "firstTick" "I" ∈ gtbl) (ha : Is S a 2) (hd : decode cc pc = .ok (.putfield ix, 3)) (kk : j (cW ar (uI S 23 a v)) k n (pc + 3) lv st) : j (cW ar S) k n pc lv (.int v :: .ref a :: st) := by
  obtain ⟨p, l, e, s, m, args, below, meth, c, A, Q, ⟨hx, hb, hml, hown, hts, hK, hA, hX, hXs⟩, rfl⟩ := C
  intro H locs ls hP hD hS hl
  have h0 := cE_2 (ar := ar) ha.2
  obtain ⟨q, hq⟩ := cW_get ha.1 h0
  refine va_put (D := D) (ci := 2) (v := .int v) (ty := .int) (C := RX2) (T := TX2) (N := 9) hx hb hts gX2 tyX2 tyX2_ok nmX2 hown hK hP hD hS q hq rfl 3 (by decide) (hts _ hw) (fun _ h9 => h9) rfl (by decide +kernel) rfl rfl (Nat.le_of_ble_eq_true rfl) hd (fun H locs hP hD1 hS => ?_)
  rw [cW_set (S' := uI S 23 a v) hD ha.1 hq h0 rfl ((cE_2 (S := uI S 23 a v) ha.2).trans (by simp (decide := true) [up2_e, up2_n, va_rf])) (fun b hb => cE_oI hb)] at hP hD1
  exact kk H locs ls hP hD1 hS hl
theorem cgI_24 (C : Cx0 own cc nL D ar X R9 j) (pc : Nat) {ix a : Nat} (hw : Cond.fieldLink own ix "EggHouse$Pack" "lastTick" "I" ∈ gtbl) (ha : Is S a 2) (hd : decode cc pc = .ok (.getfield ix, 3)) (kk : j (cW ar S) k n (pc + 3) lv (.int (S.2.2.2.1 24 a) :: st)) : j (cW ar S) k n pc lv (.ref a :: st) := by
  obtain ⟨p, l, e, s, m, args, below, meth, c, A, Q, ⟨hx, hb, hml, hown, hts, hK, hA, hX, hXs⟩, rfl⟩ := C
  intro H locs ls hP hD hS hl
  obtain ⟨q, hq⟩ := cW_get ha.1 (cE_2 (ar := ar) ha.2)
  exact va_get (D := D) (ci := 2) (C := RX2) (T := TX2) (N := 9) hx hb hts gX2 hown hK hP q hq rfl 4 (by decide) (hts _ hw) (fun _ h9 => h9) rfl hd (kk H locs ls hP hD hS hl)
theorem cpI_24 (C : Cx0 own cc nL D ar X R9 j) (pc : Nat) {ix a : Nat} {v : Int32} (hw : Cond.fieldLink own ix "EggHouse$Pack" "lastTick" "I" ∈ gtbl) (ha : Is S a 2) (hd : decode cc pc = .ok (.putfield ix, 3)) (kk : j (cW ar (uI S 24 a v)) k n (pc + 3) lv st) : j (cW ar S) k n pc lv (.int v :: .ref a :: st) := by
  obtain ⟨p, l, e, s, m, args, below, meth, c, A, Q, ⟨hx, hb, hml, hown, hts, hK, hA, hX, hXs⟩, rfl⟩ := C
  intro H locs ls hP hD hS hl
  have h0 := cE_2 (ar := ar) ha.2
  obtain ⟨q, hq⟩ := cW_get ha.1 h0
  refine va_put (D := D) (ci := 2) (v := .int v) (ty := .int) (C := RX2) (T := TX2) (N := 9) hx hb hts gX2 tyX2 tyX2_ok nmX2 hown hK hP hD hS q hq rfl 4 (by decide) (hts _ hw) (fun _ h9 => h9) rfl (by decide +kernel) rfl rfl (Nat.le_of_ble_eq_true rfl) hd (fun H locs hP hD1 hS => ?_)
  rw [cW_set (S' := uI S 24 a v) hD ha.1 hq h0 rfl ((cE_2 (S := uI S 24 a v) ha.2).trans (by simp (decide := true) [up2_e, up2_n, va_rf])) (fun b hb => cE_oI hb)] at hP hD1
  exact kk H locs ls hP hD1 hS hl
theorem cgI_25 (C : Cx0 own cc nL D ar X R9 j) (pc : Nat) {ix a : Nat} (hw : Cond.fieldLink own ix "EggHouse$Pack" "weights" "I" ∈ gtbl) (ha : Is S a 2) (hd : decode cc pc = .ok (.getfield ix, 3)) (kk : j (cW ar S) k n (pc + 3) lv (.int (S.2.2.2.1 25 a) :: st)) : j (cW ar S) k n pc lv (.ref a :: st) := by
  obtain ⟨p, l, e, s, m, args, below, meth, c, A, Q, ⟨hx, hb, hml, hown, hts, hK, hA, hX, hXs⟩, rfl⟩ := C
  intro H locs ls hP hD hS hl
  obtain ⟨q, hq⟩ := cW_get ha.1 (cE_2 (ar := ar) ha.2)
  exact va_get (D := D) (ci := 2) (C := RX2) (T := TX2) (N := 9) hx hb hts gX2 hown hK hP q hq rfl 5 (by decide) (hts _ hw) (fun _ h9 => h9) rfl hd (kk H locs ls hP hD hS hl)
theorem cpI_25 (C : Cx0 own cc nL D ar X R9 j) (pc : Nat) {ix a : Nat} {v : Int32} (hw : Cond.fieldLink own ix "EggHouse$Pack" "weights" "I" ∈ gtbl) (ha : Is S a 2) (hd : decode cc pc = .ok (.putfield ix, 3)) (kk : j (cW ar (uI S 25 a v)) k n (pc + 3) lv st) : j (cW ar S) k n pc lv (.int v :: .ref a :: st) := by
  obtain ⟨p, l, e, s, m, args, below, meth, c, A, Q, ⟨hx, hb, hml, hown, hts, hK, hA, hX, hXs⟩, rfl⟩ := C
  intro H locs ls hP hD hS hl
  have h0 := cE_2 (ar := ar) ha.2
  obtain ⟨q, hq⟩ := cW_get ha.1 h0
  refine va_put (D := D) (ci := 2) (v := .int v) (ty := .int) (C := RX2) (T := TX2) (N := 9) hx hb hts gX2 tyX2 tyX2_ok nmX2 hown hK hP hD hS q hq rfl 5 (by decide) (hts _ hw) (fun _ h9 => h9) rfl (by decide +kernel) rfl rfl (Nat.le_of_ble_eq_true rfl) hd (fun H locs hP hD1 hS => ?_)
  rw [cW_set (S' := uI S 25 a v) hD ha.1 hq h0 rfl ((cE_2 (S := uI S 25 a v) ha.2).trans (by simp (decide := true) [up2_e, up2_n, va_rf])) (fun b hb => cE_oI hb)] at hP hD1
  exact kk H locs ls hP hD1 hS hl
theorem cgI_26 (C : Cx0 own cc nL D ar X R9 j) (pc : Nat) {ix a : Nat} (hw : Cond.fieldLink own ix "EggHouse$Pack" "scaleTolds" "I" ∈ gtbl) (ha : Is S a 2) (hd : decode cc pc = .ok (.getfield ix, 3)) (kk : j (cW ar S) k n (pc + 3) lv (.int (S.2.2.2.1 26 a) :: st)) : j (cW ar S) k n pc lv (.ref a :: st) := by
  obtain ⟨p, l, e, s, m, args, below, meth, c, A, Q, ⟨hx, hb, hml, hown, hts, hK, hA, hX, hXs⟩, rfl⟩ := C
  intro H locs ls hP hD hS hl
  obtain ⟨q, hq⟩ := cW_get ha.1 (cE_2 (ar := ar) ha.2)
  exact va_get (D := D) (ci := 2) (C := RX2) (T := TX2) (N := 9) hx hb hts gX2 hown hK hP q hq rfl 6 (by decide) (hts _ hw) (fun _ h9 => h9) rfl hd (kk H locs ls hP hD hS hl)
theorem cpI_26 (C : Cx0 own cc nL D ar X R9 j) (pc : Nat) {ix a : Nat} {v : Int32} (hw : Cond.fieldLink own ix "EggHouse$Pack" "scaleTolds" "I" ∈ gtbl) (ha : Is S a 2) (hd : decode cc pc = .ok (.putfield ix, 3)) (kk : j (cW ar (uI S 26 a v)) k n (pc + 3) lv st) : j (cW ar S) k n pc lv (.int v :: .ref a :: st) := by
  obtain ⟨p, l, e, s, m, args, below, meth, c, A, Q, ⟨hx, hb, hml, hown, hts, hK, hA, hX, hXs⟩, rfl⟩ := C
  intro H locs ls hP hD hS hl
  have h0 := cE_2 (ar := ar) ha.2
  obtain ⟨q, hq⟩ := cW_get ha.1 h0
  refine va_put (D := D) (ci := 2) (v := .int v) (ty := .int) (C := RX2) (T := TX2) (N := 9) hx hb hts gX2 tyX2 tyX2_ok nmX2 hown hK hP hD hS q hq rfl 6 (by decide) (hts _ hw) (fun _ h9 => h9) rfl (by decide +kernel) rfl rfl (Nat.le_of_ble_eq_true rfl) hd (fun H locs hP hD1 hS => ?_)
  rw [cW_set (S' := uI S 26 a v) hD ha.1 hq h0 rfl ((cE_2 (S := uI S 26 a v) ha.2).trans (by simp (decide := true) [up2_e, up2_n, va_rf])) (fun b hb => cE_oI hb)] at hP hD1
  exact kk H locs ls hP hD1 hS hl
theorem cgI_27 (C : Cx0 own cc nL D ar X R9 j) (pc : Nat) {ix a : Nat} (hw : Cond.fieldLink own ix "EggHouse$Pack" "soldTo" "I" ∈ gtbl) (ha : Is S a 2) (hd : decode cc pc = .ok (.getfield ix, 3)) (kk : j (cW ar S) k n (pc + 3) lv (.int (S.2.2.2.1 27 a) :: st)) : j (cW ar S) k n pc lv (.ref a :: st) := by
  obtain ⟨p, l, e, s, m, args, below, meth, c, A, Q, ⟨hx, hb, hml, hown, hts, hK, hA, hX, hXs⟩, rfl⟩ := C
  intro H locs ls hP hD hS hl
  obtain ⟨q, hq⟩ := cW_get ha.1 (cE_2 (ar := ar) ha.2)
  exact va_get (D := D) (ci := 2) (C := RX2) (T := TX2) (N := 9) hx hb hts gX2 hown hK hP q hq rfl 7 (by decide) (hts _ hw) (fun _ h9 => h9) rfl hd (kk H locs ls hP hD hS hl)
theorem cpI_27 (C : Cx0 own cc nL D ar X R9 j) (pc : Nat) {ix a : Nat} {v : Int32} (hw : Cond.fieldLink own ix "EggHouse$Pack" "soldTo" "I" ∈ gtbl) (ha : Is S a 2) (hd : decode cc pc = .ok (.putfield ix, 3)) (kk : j (cW ar (uI S 27 a v)) k n (pc + 3) lv st) : j (cW ar S) k n pc lv (.int v :: .ref a :: st) := by
  obtain ⟨p, l, e, s, m, args, below, meth, c, A, Q, ⟨hx, hb, hml, hown, hts, hK, hA, hX, hXs⟩, rfl⟩ := C
  intro H locs ls hP hD hS hl
  have h0 := cE_2 (ar := ar) ha.2
  obtain ⟨q, hq⟩ := cW_get ha.1 h0
  refine va_put (D := D) (ci := 2) (v := .int v) (ty := .int) (C := RX2) (T := TX2) (N := 9) hx hb hts gX2 tyX2 tyX2_ok nmX2 hown hK hP hD hS q hq rfl 7 (by decide) (hts _ hw) (fun _ h9 => h9) rfl (by decide +kernel) rfl rfl (Nat.le_of_ble_eq_true rfl) hd (fun H locs hP hD1 hS => ?_)
  rw [cW_set (S' := uI S 27 a v) hD ha.1 hq h0 rfl ((cE_2 (S := uI S 27 a v) ha.2).trans (by simp (decide := true) [up2_e, up2_n, va_rf])) (fun b hb => cE_oI hb)] at hP hD1
  exact kk H locs ls hP hD1 hS hl
theorem cgI_28 (C : Cx0 own cc nL D ar X R9 j) (pc : Nat) {ix a : Nat} (hw : Cond.fieldLink own ix "EggHouse$Pack" "held" "Z" ∈ gtbl) (ha : Is S a 2) (hd : decode cc pc = .ok (.getfield ix, 3)) (kk : j (cW ar S) k n (pc + 3) lv (.int (S.2.2.2.1 28 a) :: st)) : j (cW ar S) k n pc lv (.ref a :: st) := by
  obtain ⟨p, l, e, s, m, args, below, meth, c, A, Q, ⟨hx, hb, hml, hown, hts, hK, hA, hX, hXs⟩, rfl⟩ := C
  intro H locs ls hP hD hS hl
  obtain ⟨q, hq⟩ := cW_get ha.1 (cE_2 (ar := ar) ha.2)
  exact va_get (D := D) (ci := 2) (C := RX2) (T := TX2) (N := 9) hx hb hts gX2 hown hK hP q hq rfl 8 (by decide) (hts _ hw) (fun _ h9 => h9) rfl hd (kk H locs ls hP hD hS hl)
theorem cpI_28 (C : Cx0 own cc nL D ar X R9 j) (pc : Nat) {ix a : Nat} {v : Int32} (hz : v = 0 ∨ v = 1) (hw : Cond.fieldLink own ix "EggHouse$Pack" "held" "Z" ∈ gtbl) (ha : Is S a 2) (hd : decode cc pc = .ok (.putfield ix, 3)) (kk : j (cW ar (uI S 28 a v)) k n (pc + 3) lv st) : j (cW ar S) k n pc lv (.int v :: .ref a :: st) := by
  obtain ⟨p, l, e, s, m, args, below, meth, c, A, Q, ⟨hx, hb, hml, hown, hts, hK, hA, hX, hXs⟩, rfl⟩ := C
  intro H locs ls hP hD hS hl
  have h0 := cE_2 (ar := ar) ha.2
  obtain ⟨q, hq⟩ := cW_get ha.1 h0
  refine va_put (D := D) (ci := 2) (v := .int v) (ty := .boolean) (C := RX2) (T := TX2) (N := 9) hx hb hts gX2 tyX2 tyX2_ok nmX2 hown hK hP hD hS q hq rfl 8 (by decide) (hts _ hw) (fun _ h9 => h9) rfl (by decide +kernel) (nar01 hz) (fit01 hz) (Nat.le_of_ble_eq_true rfl) hd (fun H locs hP hD1 hS => ?_)
  rw [cW_set (S' := uI S 28 a v) hD ha.1 hq h0 rfl ((cE_2 (S := uI S 28 a v) ha.2).trans (by simp (decide := true) [up2_e, up2_n, va_rf])) (fun b hb => cE_oI hb)] at hP hD1
  exact kk H locs ls hP hD1 hS hl
theorem cgI_30 (C : Cx0 own cc nL D ar X R9 j) (pc : Nat) {ix a : Nat} (hw : Cond.fieldLink own ix "EggHouse$Packer" "place" "I" ∈ gtbl) (ha : Is S a 3) (hd : decode cc pc = .ok (.getfield ix, 3)) (kk : j (cW ar S) k n (pc + 3) lv (.int (S.2.2.2.1 30 a) :: st)) : j (cW ar S) k n pc lv (.ref a :: st) := by
  obtain ⟨p, l, e, s, m, args, below, meth, c, A, Q, ⟨hx, hb, hml, hown, hts, hK, hA, hX, hXs⟩, rfl⟩ := C
  intro H locs ls hP hD hS hl
  obtain ⟨q, hq⟩ := cW_get ha.1 (cE_3 (ar := ar) ha.2)
  exact va_get (D := D) (ci := 3) (C := RX3) (T := TX3) (N := 5) hx hb hts gX3 hown hK hP q hq rfl 0 (by decide) (hts _ hw) (fun _ h9 => h9) rfl hd (kk H locs ls hP hD hS hl)
theorem cpI_30 (C : CxI RX3 cc nL D ar X R9 j) (pc : Nat) {ix a : Nat} {v : Int32} (hw : Cond.fieldLink RX3 ix "EggHouse$Packer" "place" "I" ∈ gtbl) (ha : Is S a 3) (hd : decode cc pc = .ok (.putfield ix, 3)) (kk : j (cW ar (uI S 30 a v)) k n (pc + 3) lv st) : j (cW ar S) k n pc lv (.int v :: .ref a :: st) := by
  obtain ⟨p, l, e, s, m, args, below, meth, c, A, Q, ⟨hx, hb, hml, hown, hts, hK, hA, hX, hXs⟩, hin, rfl⟩ := C
  intro H locs ls hP hD hS hl
  have h0 := cE_3 (ar := ar) ha.2
  obtain ⟨q, hq⟩ := cW_get ha.1 h0
  refine va_putF (D := D) (ci := 3) (v := .int v) (ty := .int) (C := RX3) (T := TX3) (N := 5) hx hb hts gX3 tyX3 tyX3_ok nmX3 hown hK hP hD hS q hq rfl 0 (by decide) (hts _ hw) (fun _ h9 => h9) rfl hin rfl (by decide +kernel) rfl rfl (Nat.le_of_ble_eq_true rfl) hd (fun H locs hP hD1 hS => ?_)
  rw [cW_set (S' := uI S 30 a v) hD ha.1 hq h0 rfl ((cE_3 (S := uI S 30 a v) ha.2).trans (by simp (decide := true) [up2_e, up2_n, va_rf])) (fun b hb => cE_oI hb)] at hP hD1
  exact kk H locs ls hP hD1 hS hl
theorem cgI_31 (C : Cx0 own cc nL D ar X R9 j) (pc : Nat) {ix a : Nat} (hw : Cond.fieldLink own ix "EggHouse$Packer" "grade" "I" ∈ gtbl) (ha : Is S a 3) (hd : decode cc pc = .ok (.getfield ix, 3)) (kk : j (cW ar S) k n (pc + 3) lv (.int (S.2.2.2.1 31 a) :: st)) : j (cW ar S) k n pc lv (.ref a :: st) := by
  obtain ⟨p, l, e, s, m, args, below, meth, c, A, Q, ⟨hx, hb, hml, hown, hts, hK, hA, hX, hXs⟩, rfl⟩ := C
  intro H locs ls hP hD hS hl
  obtain ⟨q, hq⟩ := cW_get ha.1 (cE_3 (ar := ar) ha.2)
  exact va_get (D := D) (ci := 3) (C := RX3) (T := TX3) (N := 5) hx hb hts gX3 hown hK hP q hq rfl 1 (by decide) (hts _ hw) (fun _ h9 => h9) rfl hd (kk H locs ls hP hD hS hl)
theorem cpI_31 (C : Cx0 own cc nL D ar X R9 j) (pc : Nat) {ix a : Nat} {v : Int32} (hw : Cond.fieldLink own ix "EggHouse$Packer" "grade" "I" ∈ gtbl) (ha : Is S a 3) (hd : decode cc pc = .ok (.putfield ix, 3)) (kk : j (cW ar (uI S 31 a v)) k n (pc + 3) lv st) : j (cW ar S) k n pc lv (.int v :: .ref a :: st) := by
  obtain ⟨p, l, e, s, m, args, below, meth, c, A, Q, ⟨hx, hb, hml, hown, hts, hK, hA, hX, hXs⟩, rfl⟩ := C
  intro H locs ls hP hD hS hl
  have h0 := cE_3 (ar := ar) ha.2
  obtain ⟨q, hq⟩ := cW_get ha.1 h0
  refine va_put (D := D) (ci := 3) (v := .int v) (ty := .int) (C := RX3) (T := TX3) (N := 5) hx hb hts gX3 tyX3 tyX3_ok nmX3 hown hK hP hD hS q hq rfl 1 (by decide) (hts _ hw) (fun _ h9 => h9) rfl (by decide +kernel) rfl rfl (Nat.le_of_ble_eq_true rfl) hd (fun H locs hP hD1 hS => ?_)
  rw [cW_set (S' := uI S 31 a v) hD ha.1 hq h0 rfl ((cE_3 (S := uI S 31 a v) ha.2).trans (by simp (decide := true) [up2_e, up2_n, va_rf])) (fun b hb => cE_oI hb)] at hP hD1
  exact kk H locs ls hP hD1 hS hl
theorem cgI_32 (C : Cx0 own cc nL D ar X R9 j) (pc : Nat) {ix a : Nat} (hw : Cond.fieldLink own ix "EggHouse$Packer" "isOn" "Z" ∈ gtbl) (ha : Is S a 3) (hd : decode cc pc = .ok (.getfield ix, 3)) (kk : j (cW ar S) k n (pc + 3) lv (.int (S.2.2.2.1 32 a) :: st)) : j (cW ar S) k n pc lv (.ref a :: st) := by
  obtain ⟨p, l, e, s, m, args, below, meth, c, A, Q, ⟨hx, hb, hml, hown, hts, hK, hA, hX, hXs⟩, rfl⟩ := C
  intro H locs ls hP hD hS hl
  obtain ⟨q, hq⟩ := cW_get ha.1 (cE_3 (ar := ar) ha.2)
  exact va_get (D := D) (ci := 3) (C := RX3) (T := TX3) (N := 5) hx hb hts gX3 hown hK hP q hq rfl 2 (by decide) (hts _ hw) (fun _ h9 => h9) rfl hd (kk H locs ls hP hD hS hl)
theorem cpI_32 (C : Cx0 own cc nL D ar X R9 j) (pc : Nat) {ix a : Nat} {v : Int32} (hz : v = 0 ∨ v = 1) (hw : Cond.fieldLink own ix "EggHouse$Packer" "isOn" "Z" ∈ gtbl) (ha : Is S a 3) (hd : decode cc pc = .ok (.putfield ix, 3)) (kk : j (cW ar (uI S 32 a v)) k n (pc + 3) lv st) : j (cW ar S) k n pc lv (.int v :: .ref a :: st) := by
  obtain ⟨p, l, e, s, m, args, below, meth, c, A, Q, ⟨hx, hb, hml, hown, hts, hK, hA, hX, hXs⟩, rfl⟩ := C
  intro H locs ls hP hD hS hl
  have h0 := cE_3 (ar := ar) ha.2
  obtain ⟨q, hq⟩ := cW_get ha.1 h0
  refine va_put (D := D) (ci := 3) (v := .int v) (ty := .boolean) (C := RX3) (T := TX3) (N := 5) hx hb hts gX3 tyX3 tyX3_ok nmX3 hown hK hP hD hS q hq rfl 2 (by decide) (hts _ hw) (fun _ h9 => h9) rfl (by decide +kernel) (nar01 hz) (fit01 hz) (Nat.le_of_ble_eq_true rfl) hd (fun H locs hP hD1 hS => ?_)
  rw [cW_set (S' := uI S 32 a v) hD ha.1 hq h0 rfl ((cE_3 (S := uI S 32 a v) ha.2).trans (by simp (decide := true) [up2_e, up2_n, va_rf])) (fun b hb => cE_oI hb)] at hP hD1
  exact kk H locs ls hP hD1 hS hl
theorem cgI_33 (C : Cx0 own cc nL D ar X R9 j) (pc : Nat) {ix a : Nat} (hw : Cond.fieldLink own ix "EggHouse$Packer" "busy" "I" ∈ gtbl) (ha : Is S a 3) (hd : decode cc pc = .ok (.getfield ix, 3)) (kk : j (cW ar S) k n (pc + 3) lv (.int (S.2.2.2.1 33 a) :: st)) : j (cW ar S) k n pc lv (.ref a :: st) := by
  obtain ⟨p, l, e, s, m, args, below, meth, c, A, Q, ⟨hx, hb, hml, hown, hts, hK, hA, hX, hXs⟩, rfl⟩ := C
  intro H locs ls hP hD hS hl
  obtain ⟨q, hq⟩ := cW_get ha.1 (cE_3 (ar := ar) ha.2)
  exact va_get (D := D) (ci := 3) (C := RX3) (T := TX3) (N := 5) hx hb hts gX3 hown hK hP q hq rfl 3 (by decide) (hts _ hw) (fun _ h9 => h9) rfl hd (kk H locs ls hP hD hS hl)
theorem cpI_33 (C : Cx0 own cc nL D ar X R9 j) (pc : Nat) {ix a : Nat} {v : Int32} (hw : Cond.fieldLink own ix "EggHouse$Packer" "busy" "I" ∈ gtbl) (ha : Is S a 3) (hd : decode cc pc = .ok (.putfield ix, 3)) (kk : j (cW ar (uI S 33 a v)) k n (pc + 3) lv st) : j (cW ar S) k n pc lv (.int v :: .ref a :: st) := by
  obtain ⟨p, l, e, s, m, args, below, meth, c, A, Q, ⟨hx, hb, hml, hown, hts, hK, hA, hX, hXs⟩, rfl⟩ := C
  intro H locs ls hP hD hS hl
  have h0 := cE_3 (ar := ar) ha.2
  obtain ⟨q, hq⟩ := cW_get ha.1 h0
  refine va_put (D := D) (ci := 3) (v := .int v) (ty := .int) (C := RX3) (T := TX3) (N := 5) hx hb hts gX3 tyX3 tyX3_ok nmX3 hown hK hP hD hS q hq rfl 3 (by decide) (hts _ hw) (fun _ h9 => h9) rfl (by decide +kernel) rfl rfl (Nat.le_of_ble_eq_true rfl) hd (fun H locs hP hD1 hS => ?_)
  rw [cW_set (S' := uI S 33 a v) hD ha.1 hq h0 rfl ((cE_3 (S := uI S 33 a v) ha.2).trans (by simp (decide := true) [up2_e, up2_n, va_rf])) (fun b hb => cE_oI hb)] at hP hD1
  exact kk H locs ls hP hD1 hS hl
theorem cgR_0 (C : Cx0 own cc nL D ar X R9 j) (pc : Nat) {ix a : Nat} {v : Nat} (hv : S.2.2.2.2.1 0 a = some v) (hw : Cond.fieldLink own ix "EggHouse$Packer" "tray" "LEggHouse$Pack;" ∈ gtbl) (ha : Is S a 3) (hd : decode cc pc = .ok (.getfield ix, 3)) (kk : j (cW ar S) k n (pc + 3) lv (.ref v :: st)) : j (cW ar S) k n pc lv (.ref a :: st) := by
  obtain ⟨p, l, e, s, m, args, below, meth, c, A, Q, ⟨hx, hb, hml, hown, hts, hK, hA, hX, hXs⟩, rfl⟩ := C
  intro H locs ls hP hD hS hl
  obtain ⟨q, hq⟩ := cW_get ha.1 (cE_3 (ar := ar) ha.2)
  exact va_get (D := D) (ci := 3) (C := RX3) (T := TX3) (N := 5) hx hb hts gX3 hown hK hP q hq rfl 4 (by decide) (hts _ hw) (fun _ h9 => h9) (by show some (va_rf (S.2.2.2.2.1 0 a)) = _; rw [hv]; rfl) hd (kk H locs ls hP hD hS hl)
theorem cpR_0 (C : Cx0 own cc nL D ar X R9 j) (pc : Nat) {ix a : Nat} {v : Nat} (hw : Cond.fieldLink own ix "EggHouse$Packer" "tray" "LEggHouse$Pack;" ∈ gtbl) (ha : Is S a 3) (hd : decode cc pc = .ok (.putfield ix, 3)) (kk : j (cW ar (uR S 0 a (some v))) k n (pc + 3) lv st) : j (cW ar S) k n pc lv (.ref v :: .ref a :: st) := by
  obtain ⟨p, l, e, s, m, args, below, meth, c, A, Q, ⟨hx, hb, hml, hown, hts, hK, hA, hX, hXs⟩, rfl⟩ := C
  intro H locs ls hP hD hS hl
  have h0 := cE_3 (ar := ar) ha.2
  obtain ⟨q, hq⟩ := cW_get ha.1 h0
  refine va_put (D := D) (ci := 3) (v := .ref v) (ty := .object "EggHouse$Pack") (C := RX3) (T := TX3) (N := 5) hx hb hts gX3 tyX3 tyX3_ok nmX3 hown hK hP hD hS q hq rfl 4 (by decide) (hts _ hw) (fun _ h9 => h9) rfl (by decide +kernel) rfl rfl (Nat.le_of_ble_eq_true rfl) hd (fun H locs hP hD1 hS => ?_)
  rw [cW_set (S' := uR S 0 a (some v)) hD ha.1 hq h0 rfl ((cE_3 (S := uR S 0 a (some v)) ha.2).trans (by simp (decide := true) [upr_e, upr_n, va_rf])) (fun b hb => cE_oR hb)] at hP hD1
  exact kk H locs ls hP hD1 hS hl
theorem cgR_1 (C : Cx0 own cc nL D ar X R9 j) (pc : Nat) {ix a : Nat} {v : Nat} (hv : S.2.2.2.2.1 1 a = some v) (hw : Cond.fieldLink own ix "EggHouse" "queue" "Ljava/util/ArrayList;" ∈ gtbl) (ha : Is S a 4) (hd : decode cc pc = .ok (.getfield ix, 3)) (kk : j (cW ar S) k n (pc + 3) lv (.ref v :: st)) : j (cW ar S) k n pc lv (.ref a :: st) := by
  obtain ⟨p, l, e, s, m, args, below, meth, c, A, Q, ⟨hx, hb, hml, hown, hts, hK, hA, hX, hXs⟩, rfl⟩ := C
  intro H locs ls hP hD hS hl
  obtain ⟨q, hq⟩ := cW_get ha.1 (cE_4 (ar := ar) ha.2)
  exact va_get (D := D) (ci := 4) (C := RX4) (T := TX4) (N := 11) hx hb hts gX4 hown hK hP q hq rfl 0 (by decide) (hts _ hw) (fun _ h9 => h9) (by show some (va_rf (S.2.2.2.2.1 1 a)) = _; rw [hv]; rfl) hd (kk H locs ls hP hD hS hl)
theorem cpR_1 (C : CxI RX4 cc nL D ar X R9 j) (pc : Nat) {ix a : Nat} {v : Nat} (hw : Cond.fieldLink RX4 ix "EggHouse" "queue" "Ljava/util/ArrayList;" ∈ gtbl) (ha : Is S a 4) (hd : decode cc pc = .ok (.putfield ix, 3)) (kk : j (cW ar (uR S 1 a (some v))) k n (pc + 3) lv st) : j (cW ar S) k n pc lv (.ref v :: .ref a :: st) := by
  obtain ⟨p, l, e, s, m, args, below, meth, c, A, Q, ⟨hx, hb, hml, hown, hts, hK, hA, hX, hXs⟩, hin, rfl⟩ := C
  intro H locs ls hP hD hS hl
  have h0 := cE_4 (ar := ar) ha.2
  obtain ⟨q, hq⟩ := cW_get ha.1 h0
  refine va_putF (D := D) (ci := 4) (v := .ref v) (ty := .object "java/util/ArrayList") (C := RX4) (T := TX4) (N := 11) hx hb hts gX4 tyX4 tyX4_ok nmX4 hown hK hP hD hS q hq rfl 0 (by decide) (hts _ hw) (fun _ h9 => h9) rfl hin rfl (by decide +kernel) rfl rfl (Nat.le_of_ble_eq_true rfl) hd (fun H locs hP hD1 hS => ?_)
  rw [cW_set (S' := uR S 1 a (some v)) hD ha.1 hq h0 rfl ((cE_4 (S := uR S 1 a (some v)) ha.2).trans (by simp (decide := true) [upr_e, upr_n, va_rf])) (fun b hb => cE_oR hb)] at hP hD1
  exact kk H locs ls hP hD1 hS hl
theorem cgR_2 (C : Cx0 own cc nL D ar X R9 j) (pc : Nat) {ix a : Nat} {v : Nat} (hv : S.2.2.2.2.1 2 a = some v) (hw : Cond.fieldLink own ix "EggHouse" "wash" "Ljava/util/ArrayList;" ∈ gtbl) (ha : Is S a 4) (hd : decode cc pc = .ok (.getfield ix, 3)) (kk : j (cW ar S) k n (pc + 3) lv (.ref v :: st)) : j (cW ar S) k n pc lv (.ref a :: st) := by
  obtain ⟨p, l, e, s, m, args, below, meth, c, A, Q, ⟨hx, hb, hml, hown, hts, hK, hA, hX, hXs⟩, rfl⟩ := C
  intro H locs ls hP hD hS hl
  obtain ⟨q, hq⟩ := cW_get ha.1 (cE_4 (ar := ar) ha.2)
  exact va_get (D := D) (ci := 4) (C := RX4) (T := TX4) (N := 11) hx hb hts gX4 hown hK hP q hq rfl 1 (by decide) (hts _ hw) (fun _ h9 => h9) (by show some (va_rf (S.2.2.2.2.1 2 a)) = _; rw [hv]; rfl) hd (kk H locs ls hP hD hS hl)
theorem cpR_2 (C : CxI RX4 cc nL D ar X R9 j) (pc : Nat) {ix a : Nat} {v : Nat} (hw : Cond.fieldLink RX4 ix "EggHouse" "wash" "Ljava/util/ArrayList;" ∈ gtbl) (ha : Is S a 4) (hd : decode cc pc = .ok (.putfield ix, 3)) (kk : j (cW ar (uR S 2 a (some v))) k n (pc + 3) lv st) : j (cW ar S) k n pc lv (.ref v :: .ref a :: st) := by
  obtain ⟨p, l, e, s, m, args, below, meth, c, A, Q, ⟨hx, hb, hml, hown, hts, hK, hA, hX, hXs⟩, hin, rfl⟩ := C
  intro H locs ls hP hD hS hl
  have h0 := cE_4 (ar := ar) ha.2
  obtain ⟨q, hq⟩ := cW_get ha.1 h0
  refine va_putF (D := D) (ci := 4) (v := .ref v) (ty := .object "java/util/ArrayList") (C := RX4) (T := TX4) (N := 11) hx hb hts gX4 tyX4 tyX4_ok nmX4 hown hK hP hD hS q hq rfl 1 (by decide) (hts _ hw) (fun _ h9 => h9) rfl hin rfl (by decide +kernel) rfl rfl (Nat.le_of_ble_eq_true rfl) hd (fun H locs hP hD1 hS => ?_)
  rw [cW_set (S' := uR S 2 a (some v)) hD ha.1 hq h0 rfl ((cE_4 (S := uR S 2 a (some v)) ha.2).trans (by simp (decide := true) [upr_e, upr_n, va_rf])) (fun b hb => cE_oR hb)] at hP hD1
  exact kk H locs ls hP hD1 hS hl
theorem cgR_3 (C : Cx0 own cc nL D ar X R9 j) (pc : Nat) {ix a : Nat} {v : Nat} (hv : S.2.2.2.2.1 3 a = some v) (hw : Cond.fieldLink own ix "EggHouse" "line" "[LEggHouse$Egg;" ∈ gtbl) (ha : Is S a 4) (hd : decode cc pc = .ok (.getfield ix, 3)) (kk : j (cW ar S) k n (pc + 3) lv (.ref v :: st)) : j (cW ar S) k n pc lv (.ref a :: st) := by
  obtain ⟨p, l, e, s, m, args, below, meth, c, A, Q, ⟨hx, hb, hml, hown, hts, hK, hA, hX, hXs⟩, rfl⟩ := C
  intro H locs ls hP hD hS hl
  obtain ⟨q, hq⟩ := cW_get ha.1 (cE_4 (ar := ar) ha.2)
  exact va_get (D := D) (ci := 4) (C := RX4) (T := TX4) (N := 11) hx hb hts gX4 hown hK hP q hq rfl 2 (by decide) (hts _ hw) (fun _ h9 => h9) (by show some (va_rf (S.2.2.2.2.1 3 a)) = _; rw [hv]; rfl) hd (kk H locs ls hP hD hS hl)
theorem cpR_3 (C : CxI RX4 cc nL D ar X R9 j) (pc : Nat) {ix a : Nat} {v : Nat} (hw : Cond.fieldLink RX4 ix "EggHouse" "line" "[LEggHouse$Egg;" ∈ gtbl) (ha : Is S a 4) (hd : decode cc pc = .ok (.putfield ix, 3)) (kk : j (cW ar (uR S 3 a (some v))) k n (pc + 3) lv st) : j (cW ar S) k n pc lv (.ref v :: .ref a :: st) := by
  obtain ⟨p, l, e, s, m, args, below, meth, c, A, Q, ⟨hx, hb, hml, hown, hts, hK, hA, hX, hXs⟩, hin, rfl⟩ := C
  intro H locs ls hP hD hS hl
  have h0 := cE_4 (ar := ar) ha.2
  obtain ⟨q, hq⟩ := cW_get ha.1 h0
  refine va_putF (D := D) (ci := 4) (v := .ref v) (ty := .array (.object "EggHouse$Egg")) (C := RX4) (T := TX4) (N := 11) hx hb hts gX4 tyX4 tyX4_ok nmX4 hown hK hP hD hS q hq rfl 2 (by decide) (hts _ hw) (fun _ h9 => h9) rfl hin rfl (by decide +kernel) rfl rfl (Nat.le_of_ble_eq_true rfl) hd (fun H locs hP hD1 hS => ?_)
  rw [cW_set (S' := uR S 3 a (some v)) hD ha.1 hq h0 rfl ((cE_4 (S := uR S 3 a (some v)) ha.2).trans (by simp (decide := true) [upr_e, upr_n, va_rf])) (fun b hb => cE_oR hb)] at hP hD1
  exact kk H locs ls hP hD1 hS hl
theorem cgR_4 (C : Cx0 own cc nL D ar X R9 j) (pc : Nat) {ix a : Nat} {v : Nat} (hv : S.2.2.2.2.1 4 a = some v) (hw : Cond.fieldLink own ix "EggHouse" "packers" "[LEggHouse$Packer;" ∈ gtbl) (ha : Is S a 4) (hd : decode cc pc = .ok (.getfield ix, 3)) (kk : j (cW ar S) k n (pc + 3) lv (.ref v :: st)) : j (cW ar S) k n pc lv (.ref a :: st) := by
  obtain ⟨p, l, e, s, m, args, below, meth, c, A, Q, ⟨hx, hb, hml, hown, hts, hK, hA, hX, hXs⟩, rfl⟩ := C
  intro H locs ls hP hD hS hl
  obtain ⟨q, hq⟩ := cW_get ha.1 (cE_4 (ar := ar) ha.2)
  exact va_get (D := D) (ci := 4) (C := RX4) (T := TX4) (N := 11) hx hb hts gX4 hown hK hP q hq rfl 3 (by decide) (hts _ hw) (fun _ h9 => h9) (by show some (va_rf (S.2.2.2.2.1 4 a)) = _; rw [hv]; rfl) hd (kk H locs ls hP hD hS hl)
theorem cpR_4 (C : CxI RX4 cc nL D ar X R9 j) (pc : Nat) {ix a : Nat} {v : Nat} (hw : Cond.fieldLink RX4 ix "EggHouse" "packers" "[LEggHouse$Packer;" ∈ gtbl) (ha : Is S a 4) (hd : decode cc pc = .ok (.putfield ix, 3)) (kk : j (cW ar (uR S 4 a (some v))) k n (pc + 3) lv st) : j (cW ar S) k n pc lv (.ref v :: .ref a :: st) := by
  obtain ⟨p, l, e, s, m, args, below, meth, c, A, Q, ⟨hx, hb, hml, hown, hts, hK, hA, hX, hXs⟩, hin, rfl⟩ := C
  intro H locs ls hP hD hS hl
  have h0 := cE_4 (ar := ar) ha.2
  obtain ⟨q, hq⟩ := cW_get ha.1 h0
  refine va_putF (D := D) (ci := 4) (v := .ref v) (ty := .array (.object "EggHouse$Packer")) (C := RX4) (T := TX4) (N := 11) hx hb hts gX4 tyX4 tyX4_ok nmX4 hown hK hP hD hS q hq rfl 3 (by decide) (hts _ hw) (fun _ h9 => h9) rfl hin rfl (by decide +kernel) rfl rfl (Nat.le_of_ble_eq_true rfl) hd (fun H locs hP hD1 hS => ?_)
  rw [cW_set (S' := uR S 4 a (some v)) hD ha.1 hq h0 rfl ((cE_4 (S := uR S 4 a (some v)) ha.2).trans (by simp (decide := true) [upr_e, upr_n, va_rf])) (fun b hb => cE_oR hb)] at hP hD1
  exact kk H locs ls hP hD1 hS hl
theorem cgR_5 (C : Cx0 own cc nL D ar X R9 j) (pc : Nat) {ix a : Nat} {v : Nat} (hv : S.2.2.2.2.1 5 a = some v) (hw : Cond.fieldLink own ix "EggHouse" "packs" "Ljava/util/ArrayList;" ∈ gtbl) (ha : Is S a 4) (hd : decode cc pc = .ok (.getfield ix, 3)) (kk : j (cW ar S) k n (pc + 3) lv (.ref v :: st)) : j (cW ar S) k n pc lv (.ref a :: st) := by
  obtain ⟨p, l, e, s, m, args, below, meth, c, A, Q, ⟨hx, hb, hml, hown, hts, hK, hA, hX, hXs⟩, rfl⟩ := C
  intro H locs ls hP hD hS hl
  obtain ⟨q, hq⟩ := cW_get ha.1 (cE_4 (ar := ar) ha.2)
  exact va_get (D := D) (ci := 4) (C := RX4) (T := TX4) (N := 11) hx hb hts gX4 hown hK hP q hq rfl 4 (by decide) (hts _ hw) (fun _ h9 => h9) (by show some (va_rf (S.2.2.2.2.1 5 a)) = _; rw [hv]; rfl) hd (kk H locs ls hP hD hS hl)
theorem cpR_5 (C : CxI RX4 cc nL D ar X R9 j) (pc : Nat) {ix a : Nat} {v : Nat} (hw : Cond.fieldLink RX4 ix "EggHouse" "packs" "Ljava/util/ArrayList;" ∈ gtbl) (ha : Is S a 4) (hd : decode cc pc = .ok (.putfield ix, 3)) (kk : j (cW ar (uR S 5 a (some v))) k n (pc + 3) lv st) : j (cW ar S) k n pc lv (.ref v :: .ref a :: st) := by
  obtain ⟨p, l, e, s, m, args, below, meth, c, A, Q, ⟨hx, hb, hml, hown, hts, hK, hA, hX, hXs⟩, hin, rfl⟩ := C
  intro H locs ls hP hD hS hl
  have h0 := cE_4 (ar := ar) ha.2
  obtain ⟨q, hq⟩ := cW_get ha.1 h0
  refine va_putF (D := D) (ci := 4) (v := .ref v) (ty := .object "java/util/ArrayList") (C := RX4) (T := TX4) (N := 11) hx hb hts gX4 tyX4 tyX4_ok nmX4 hown hK hP hD hS q hq rfl 4 (by decide) (hts _ hw) (fun _ h9 => h9) rfl hin rfl (by decide +kernel) rfl rfl (Nat.le_of_ble_eq_true rfl) hd (fun H locs hP hD1 hS => ?_)
  rw [cW_set (S' := uR S 5 a (some v)) hD ha.1 hq h0 rfl ((cE_4 (S := uR S 5 a (some v)) ha.2).trans (by simp (decide := true) [upr_e, upr_n, va_rf])) (fun b hb => cE_oR hb)] at hP hD1
  exact kk H locs ls hP hD1 hS hl
theorem cgR_6 (C : Cx0 own cc nL D ar X R9 j) (pc : Nat) {ix a : Nat} {v : Nat} (hv : S.2.2.2.2.1 6 a = some v) (hw : Cond.fieldLink own ix "EggHouse" "orders" "Ljava/util/ArrayList;" ∈ gtbl) (ha : Is S a 4) (hd : decode cc pc = .ok (.getfield ix, 3)) (kk : j (cW ar S) k n (pc + 3) lv (.ref v :: st)) : j (cW ar S) k n pc lv (.ref a :: st) := by
  obtain ⟨p, l, e, s, m, args, below, meth, c, A, Q, ⟨hx, hb, hml, hown, hts, hK, hA, hX, hXs⟩, rfl⟩ := C
  intro H locs ls hP hD hS hl
  obtain ⟨q, hq⟩ := cW_get ha.1 (cE_4 (ar := ar) ha.2)
  exact va_get (D := D) (ci := 4) (C := RX4) (T := TX4) (N := 11) hx hb hts gX4 hown hK hP q hq rfl 5 (by decide) (hts _ hw) (fun _ h9 => h9) (by show some (va_rf (S.2.2.2.2.1 6 a)) = _; rw [hv]; rfl) hd (kk H locs ls hP hD hS hl)
theorem cpR_6 (C : CxI RX4 cc nL D ar X R9 j) (pc : Nat) {ix a : Nat} {v : Nat} (hw : Cond.fieldLink RX4 ix "EggHouse" "orders" "Ljava/util/ArrayList;" ∈ gtbl) (ha : Is S a 4) (hd : decode cc pc = .ok (.putfield ix, 3)) (kk : j (cW ar (uR S 6 a (some v))) k n (pc + 3) lv st) : j (cW ar S) k n pc lv (.ref v :: .ref a :: st) := by
  obtain ⟨p, l, e, s, m, args, below, meth, c, A, Q, ⟨hx, hb, hml, hown, hts, hK, hA, hX, hXs⟩, hin, rfl⟩ := C
  intro H locs ls hP hD hS hl
  have h0 := cE_4 (ar := ar) ha.2
  obtain ⟨q, hq⟩ := cW_get ha.1 h0
  refine va_putF (D := D) (ci := 4) (v := .ref v) (ty := .object "java/util/ArrayList") (C := RX4) (T := TX4) (N := 11) hx hb hts gX4 tyX4 tyX4_ok nmX4 hown hK hP hD hS q hq rfl 5 (by decide) (hts _ hw) (fun _ h9 => h9) rfl hin rfl (by decide +kernel) rfl rfl (Nat.le_of_ble_eq_true rfl) hd (fun H locs hP hD1 hS => ?_)
  rw [cW_set (S' := uR S 6 a (some v)) hD ha.1 hq h0 rfl ((cE_4 (S := uR S 6 a (some v)) ha.2).trans (by simp (decide := true) [upr_e, upr_n, va_rf])) (fun b hb => cE_oR hb)] at hP hD1
  exact kk H locs ls hP hD1 hS hl
theorem cgR_7 (C : Cx0 own cc nL D ar X R9 j) (pc : Nat) {ix a : Nat} {v : Nat} (hv : S.2.2.2.2.1 7 a = some v) (hw : Cond.fieldLink own ix "EggHouse" "byBarn" "[[I" ∈ gtbl) (ha : Is S a 4) (hd : decode cc pc = .ok (.getfield ix, 3)) (kk : j (cW ar S) k n (pc + 3) lv (.ref v :: st)) : j (cW ar S) k n pc lv (.ref a :: st) := by
  obtain ⟨p, l, e, s, m, args, below, meth, c, A, Q, ⟨hx, hb, hml, hown, hts, hK, hA, hX, hXs⟩, rfl⟩ := C
  intro H locs ls hP hD hS hl
  obtain ⟨q, hq⟩ := cW_get ha.1 (cE_4 (ar := ar) ha.2)
  exact va_get (D := D) (ci := 4) (C := RX4) (T := TX4) (N := 11) hx hb hts gX4 hown hK hP q hq rfl 6 (by decide) (hts _ hw) (fun _ h9 => h9) (by show some (va_rf (S.2.2.2.2.1 7 a)) = _; rw [hv]; rfl) hd (kk H locs ls hP hD hS hl)
theorem cpR_7 (C : CxI RX4 cc nL D ar X R9 j) (pc : Nat) {ix a : Nat} {v : Nat} (hw : Cond.fieldLink RX4 ix "EggHouse" "byBarn" "[[I" ∈ gtbl) (ha : Is S a 4) (hd : decode cc pc = .ok (.putfield ix, 3)) (kk : j (cW ar (uR S 7 a (some v))) k n (pc + 3) lv st) : j (cW ar S) k n pc lv (.ref v :: .ref a :: st) := by
  obtain ⟨p, l, e, s, m, args, below, meth, c, A, Q, ⟨hx, hb, hml, hown, hts, hK, hA, hX, hXs⟩, hin, rfl⟩ := C
  intro H locs ls hP hD hS hl
  have h0 := cE_4 (ar := ar) ha.2
  obtain ⟨q, hq⟩ := cW_get ha.1 h0
  refine va_putF (D := D) (ci := 4) (v := .ref v) (ty := .array (.array .int)) (C := RX4) (T := TX4) (N := 11) hx hb hts gX4 tyX4 tyX4_ok nmX4 hown hK hP hD hS q hq rfl 6 (by decide) (hts _ hw) (fun _ h9 => h9) rfl hin rfl (by decide +kernel) rfl rfl (Nat.le_of_ble_eq_true rfl) hd (fun H locs hP hD1 hS => ?_)
  rw [cW_set (S' := uR S 7 a (some v)) hD ha.1 hq h0 rfl ((cE_4 (S := uR S 7 a (some v)) ha.2).trans (by simp (decide := true) [upr_e, upr_n, va_rf])) (fun b hb => cE_oR hb)] at hP hD1
  exact kk H locs ls hP hD1 hS hl
theorem cgI_40 (C : Cx0 own cc nL D ar X R9 j) (pc : Nat) {ix a : Nat} (hw : Cond.fieldLink own ix "EggHouse" "tickNumber" "I" ∈ gtbl) (ha : Is S a 4) (hd : decode cc pc = .ok (.getfield ix, 3)) (kk : j (cW ar S) k n (pc + 3) lv (.int (S.2.2.2.1 40 a) :: st)) : j (cW ar S) k n pc lv (.ref a :: st) := by
  obtain ⟨p, l, e, s, m, args, below, meth, c, A, Q, ⟨hx, hb, hml, hown, hts, hK, hA, hX, hXs⟩, rfl⟩ := C
  intro H locs ls hP hD hS hl
  obtain ⟨q, hq⟩ := cW_get ha.1 (cE_4 (ar := ar) ha.2)
  exact va_get (D := D) (ci := 4) (C := RX4) (T := TX4) (N := 11) hx hb hts gX4 hown hK hP q hq rfl 7 (by decide) (hts _ hw) (fun _ h9 => h9) rfl hd (kk H locs ls hP hD hS hl)
theorem cpI_40 (C : Cx0 own cc nL D ar X R9 j) (pc : Nat) {ix a : Nat} {v : Int32} (hw : Cond.fieldLink own ix "EggHouse" "tickNumber" "I" ∈ gtbl) (ha : Is S a 4) (hd : decode cc pc = .ok (.putfield ix, 3)) (kk : j (cW ar (uI S 40 a v)) k n (pc + 3) lv st) : j (cW ar S) k n pc lv (.int v :: .ref a :: st) := by
  obtain ⟨p, l, e, s, m, args, below, meth, c, A, Q, ⟨hx, hb, hml, hown, hts, hK, hA, hX, hXs⟩, rfl⟩ := C
  intro H locs ls hP hD hS hl
  have h0 := cE_4 (ar := ar) ha.2
  obtain ⟨q, hq⟩ := cW_get ha.1 h0
  refine va_put (D := D) (ci := 4) (v := .int v) (ty := .int) (C := RX4) (T := TX4) (N := 11) hx hb hts gX4 tyX4 tyX4_ok nmX4 hown hK hP hD hS q hq rfl 7 (by decide) (hts _ hw) (fun _ h9 => h9) rfl (by decide +kernel) rfl rfl (Nat.le_of_ble_eq_true rfl) hd (fun H locs hP hD1 hS => ?_)
  rw [cW_set (S' := uI S 40 a v) hD ha.1 hq h0 rfl ((cE_4 (S := uI S 40 a v) ha.2).trans (by simp (decide := true) [up2_e, up2_n, va_rf])) (fun b hb => cE_oI hb)] at hP hD1
  exact kk H locs ls hP hD1 hS hl
theorem cgI_41 (C : Cx0 own cc nL D ar X R9 j) (pc : Nat) {ix a : Nat} (hw : Cond.fieldLink own ix "EggHouse" "driftNow" "I" ∈ gtbl) (ha : Is S a 4) (hd : decode cc pc = .ok (.getfield ix, 3)) (kk : j (cW ar S) k n (pc + 3) lv (.int (S.2.2.2.1 41 a) :: st)) : j (cW ar S) k n pc lv (.ref a :: st) := by
  obtain ⟨p, l, e, s, m, args, below, meth, c, A, Q, ⟨hx, hb, hml, hown, hts, hK, hA, hX, hXs⟩, rfl⟩ := C
  intro H locs ls hP hD hS hl
  obtain ⟨q, hq⟩ := cW_get ha.1 (cE_4 (ar := ar) ha.2)
  exact va_get (D := D) (ci := 4) (C := RX4) (T := TX4) (N := 11) hx hb hts gX4 hown hK hP q hq rfl 8 (by decide) (hts _ hw) (fun _ h9 => h9) rfl hd (kk H locs ls hP hD hS hl)
theorem cpI_41 (C : Cx0 own cc nL D ar X R9 j) (pc : Nat) {ix a : Nat} {v : Int32} (hw : Cond.fieldLink own ix "EggHouse" "driftNow" "I" ∈ gtbl) (ha : Is S a 4) (hd : decode cc pc = .ok (.putfield ix, 3)) (kk : j (cW ar (uI S 41 a v)) k n (pc + 3) lv st) : j (cW ar S) k n pc lv (.int v :: .ref a :: st) := by
  obtain ⟨p, l, e, s, m, args, below, meth, c, A, Q, ⟨hx, hb, hml, hown, hts, hK, hA, hX, hXs⟩, rfl⟩ := C
  intro H locs ls hP hD hS hl
  have h0 := cE_4 (ar := ar) ha.2
  obtain ⟨q, hq⟩ := cW_get ha.1 h0
  refine va_put (D := D) (ci := 4) (v := .int v) (ty := .int) (C := RX4) (T := TX4) (N := 11) hx hb hts gX4 tyX4 tyX4_ok nmX4 hown hK hP hD hS q hq rfl 8 (by decide) (hts _ hw) (fun _ h9 => h9) rfl (by decide +kernel) rfl rfl (Nat.le_of_ble_eq_true rfl) hd (fun H locs hP hD1 hS => ?_)
  rw [cW_set (S' := uI S 41 a v) hD ha.1 hq h0 rfl ((cE_4 (S := uI S 41 a v) ha.2).trans (by simp (decide := true) [up2_e, up2_n, va_rf])) (fun b hb => cE_oI hb)] at hP hD1
  exact kk H locs ls hP hD1 hS hl
theorem cgI_42 (C : Cx0 own cc nL D ar X R9 j) (pc : Nat) {ix a : Nat} (hw : Cond.fieldLink own ix "EggHouse" "washedEver" "I" ∈ gtbl) (ha : Is S a 4) (hd : decode cc pc = .ok (.getfield ix, 3)) (kk : j (cW ar S) k n (pc + 3) lv (.int (S.2.2.2.1 42 a) :: st)) : j (cW ar S) k n pc lv (.ref a :: st) := by
  obtain ⟨p, l, e, s, m, args, below, meth, c, A, Q, ⟨hx, hb, hml, hown, hts, hK, hA, hX, hXs⟩, rfl⟩ := C
  intro H locs ls hP hD hS hl
  obtain ⟨q, hq⟩ := cW_get ha.1 (cE_4 (ar := ar) ha.2)
  exact va_get (D := D) (ci := 4) (C := RX4) (T := TX4) (N := 11) hx hb hts gX4 hown hK hP q hq rfl 9 (by decide) (hts _ hw) (fun _ h9 => h9) rfl hd (kk H locs ls hP hD hS hl)
theorem cpI_42 (C : Cx0 own cc nL D ar X R9 j) (pc : Nat) {ix a : Nat} {v : Int32} (hw : Cond.fieldLink own ix "EggHouse" "washedEver" "I" ∈ gtbl) (ha : Is S a 4) (hd : decode cc pc = .ok (.putfield ix, 3)) (kk : j (cW ar (uI S 42 a v)) k n (pc + 3) lv st) : j (cW ar S) k n pc lv (.int v :: .ref a :: st) := by
  obtain ⟨p, l, e, s, m, args, below, meth, c, A, Q, ⟨hx, hb, hml, hown, hts, hK, hA, hX, hXs⟩, rfl⟩ := C
  intro H locs ls hP hD hS hl
  have h0 := cE_4 (ar := ar) ha.2
  obtain ⟨q, hq⟩ := cW_get ha.1 h0
  refine va_put (D := D) (ci := 4) (v := .int v) (ty := .int) (C := RX4) (T := TX4) (N := 11) hx hb hts gX4 tyX4 tyX4_ok nmX4 hown hK hP hD hS q hq rfl 9 (by decide) (hts _ hw) (fun _ h9 => h9) rfl (by decide +kernel) rfl rfl (Nat.le_of_ble_eq_true rfl) hd (fun H locs hP hD1 hS => ?_)
  rw [cW_set (S' := uI S 42 a v) hD ha.1 hq h0 rfl ((cE_4 (S := uI S 42 a v) ha.2).trans (by simp (decide := true) [up2_e, up2_n, va_rf])) (fun b hb => cE_oI hb)] at hP hD1
  exact kk H locs ls hP hD1 hS hl
theorem cgJ (C : Cx0 own cc nL D ar X R9 j) (pc : Nat) {ix a : Nat} (hw : Cond.fieldLink own ix "EggHouse" "traceSum" "J" ∈ gtbl) (ha : Is S a 4) (hd : decode cc pc = .ok (.getfield ix, 3)) (kk : j (cW ar S) k n (pc + 3) lv (.long (S.2.2.2.2.2.1 a) :: st)) : j (cW ar S) k n pc lv (.ref a :: st) := by
  obtain ⟨p, l, e, s, m, args, below, meth, c, A, Q, ⟨hx, hb, hml, hown, hts, hK, hA, hX, hXs⟩, rfl⟩ := C
  intro H locs ls hP hD hS hl
  obtain ⟨q, hq⟩ := cW_get ha.1 (cE_4 (ar := ar) ha.2)
  exact va_get (D := D) (ci := 4) (C := RX4) (T := TX4) (N := 11) hx hb hts gX4 hown hK hP q hq rfl 10 (by decide) (hts _ hw) (fun _ h9 => h9) rfl hd (kk H locs ls hP hD hS hl)
theorem cpJ (C : Cx0 own cc nL D ar X R9 j) (pc : Nat) {ix a : Nat} {v : Int64} (hw : Cond.fieldLink own ix "EggHouse" "traceSum" "J" ∈ gtbl) (ha : Is S a 4) (hd : decode cc pc = .ok (.putfield ix, 3)) (kk : j (cW ar (uJ S a v)) k n (pc + 3) lv st) : j (cW ar S) k n pc lv (.long v :: .ref a :: st) := by
  obtain ⟨p, l, e, s, m, args, below, meth, c, A, Q, ⟨hx, hb, hml, hown, hts, hK, hA, hX, hXs⟩, rfl⟩ := C
  intro H locs ls hP hD hS hl
  have h0 := cE_4 (ar := ar) ha.2
  obtain ⟨q, hq⟩ := cW_get ha.1 h0
  refine va_put (D := D) (ci := 4) (v := .long v) (ty := .long) (C := RX4) (T := TX4) (N := 11) hx hb hts gX4 tyX4 tyX4_ok nmX4 hown hK hP hD hS q hq rfl 10 (by decide) (hts _ hw) (fun _ h9 => h9) rfl (by decide +kernel) rfl rfl (Nat.le_of_ble_eq_true rfl) hd (fun H locs hP hD1 hS => ?_)
  rw [cW_set (S' := uJ S a v) hD ha.1 hq h0 rfl ((cE_4 (S := uJ S a v) ha.2).trans (by simp (decide := true) [va_up_self, va_up, va_rf])) (fun b hb => cE_oJ hb)] at hP hD1
  exact kk H locs ls hP hD1 hS hl
theorem cgI_50 (C : Cx0 own cc nL D ar X R9 j) (pc : Nat) {ix a : Nat} {ref : String} (hsm : ref = "java/util/AbstractList" ∨ ref = "java/util/ArrayList") (hw : Cond.fieldLink own ix ref "modCount" "I" ∈ gtbl) (ha : Is S a 6) (hd : decode cc pc = .ok (.getfield ix, 3)) (kk : j (cW ar S) k n (pc + 3) lv (.int (S.2.2.2.1 50 a) :: st)) : j (cW ar S) k n pc lv (.ref a :: st) := by
  obtain ⟨p, l, e, s, m, args, below, meth, c, A, Q, ⟨hx, hb, hml, hown, hts, hK, hA, hX, hXs⟩, rfl⟩ := C
  intro H locs ls hP hD hS hl
  obtain ⟨q, hq⟩ := cW_get ha.1 (cE_6 (ar := ar) ha.2)
  exact va_get (D := D) (ci := 6) (C := RJx4a65c) (T := TJx4a65c) (N := 3) hx hb hts gJx4a65c hown hK hP q hq rfl 0 (by decide) (hts _ hw) (by rcases hsm with rfl | rfl; exact fun _ h9 => h9; exact fun x9 h9 => u_same (hts _ sf_modCount) x9 h9) rfl hd (kk H locs ls hP hD hS hl)
theorem cpI_50 (C : Cx0 own cc nL D ar X R9 j) (pc : Nat) {ix a : Nat} {ref : String} (hsm : ref = "java/util/AbstractList" ∨ ref = "java/util/ArrayList") {v : Int32} (hw : Cond.fieldLink own ix ref "modCount" "I" ∈ gtbl) (ha : Is S a 6) (hd : decode cc pc = .ok (.putfield ix, 3)) (kk : j (cW ar (uI S 50 a v)) k n (pc + 3) lv st) : j (cW ar S) k n pc lv (.int v :: .ref a :: st) := by
  obtain ⟨p, l, e, s, m, args, below, meth, c, A, Q, ⟨hx, hb, hml, hown, hts, hK, hA, hX, hXs⟩, rfl⟩ := C
  intro H locs ls hP hD hS hl
  have h0 := cE_6 (ar := ar) ha.2
  obtain ⟨q, hq⟩ := cW_get ha.1 h0
  refine va_put (D := D) (ci := 6) (v := .int v) (ty := .int) (C := RJx4a65c) (T := TJx4a65c) (N := 3) hx hb hts gJx4a65c tyJx4a65c tyJx4a65c_ok nmJx4a65c hown hK hP hD hS q hq rfl 0 (by decide) (hts _ hw) (by rcases hsm with rfl | rfl; exact fun _ h9 => h9; exact fun x9 h9 => u_same (hts _ sf_modCount) x9 h9) rfl (by decide +kernel) rfl rfl (Nat.le_of_ble_eq_true rfl) hd (fun H locs hP hD1 hS => ?_)
  rw [cW_set (S' := uI S 50 a v) hD ha.1 hq h0 rfl ((cE_6 (S := uI S 50 a v) ha.2).trans (by simp (decide := true) [up2_e, up2_n, va_rf])) (fun b hb => cE_oI hb)] at hP hD1
  exact kk H locs ls hP hD1 hS hl
theorem cgR_8 (C : Cx0 own cc nL D ar X R9 j) (pc : Nat) {ix a : Nat} {v : Nat} (hv : S.2.2.2.2.1 8 a = some v) (hw : Cond.fieldLink own ix "java/util/ArrayList" "elementData" "[Ljava/lang/Object;" ∈ gtbl) (ha : Is S a 6) (hd : decode cc pc = .ok (.getfield ix, 3)) (kk : j (cW ar S) k n (pc + 3) lv (.ref v :: st)) : j (cW ar S) k n pc lv (.ref a :: st) := by
  obtain ⟨p, l, e, s, m, args, below, meth, c, A, Q, ⟨hx, hb, hml, hown, hts, hK, hA, hX, hXs⟩, rfl⟩ := C
  intro H locs ls hP hD hS hl
  obtain ⟨q, hq⟩ := cW_get ha.1 (cE_6 (ar := ar) ha.2)
  exact va_get (D := D) (ci := 6) (C := RJx4a65c) (T := TJx4a65c) (N := 3) hx hb hts gJx4a65c hown hK hP q hq rfl 1 (by decide) (hts _ hw) (fun _ h9 => h9) (by show some (va_rf (S.2.2.2.2.1 8 a)) = _; rw [hv]; rfl) hd (kk H locs ls hP hD hS hl)
theorem cpR_8 (C : Cx0 own cc nL D ar X R9 j) (pc : Nat) {ix a : Nat} {v : Nat} (hw : Cond.fieldLink own ix "java/util/ArrayList" "elementData" "[Ljava/lang/Object;" ∈ gtbl) (ha : Is S a 6) (hd : decode cc pc = .ok (.putfield ix, 3)) (kk : j (cW ar (uR S 8 a (some v))) k n (pc + 3) lv st) : j (cW ar S) k n pc lv (.ref v :: .ref a :: st) := by
  obtain ⟨p, l, e, s, m, args, below, meth, c, A, Q, ⟨hx, hb, hml, hown, hts, hK, hA, hX, hXs⟩, rfl⟩ := C
  intro H locs ls hP hD hS hl
  have h0 := cE_6 (ar := ar) ha.2
  obtain ⟨q, hq⟩ := cW_get ha.1 h0
  refine va_put (D := D) (ci := 6) (v := .ref v) (ty := .array (.object "java/lang/Object")) (C := RJx4a65c) (T := TJx4a65c) (N := 3) hx hb hts gJx4a65c tyJx4a65c tyJx4a65c_ok nmJx4a65c hown hK hP hD hS q hq rfl 1 (by decide) (hts _ hw) (fun _ h9 => h9) rfl (by decide +kernel) rfl rfl (Nat.le_of_ble_eq_true rfl) hd (fun H locs hP hD1 hS => ?_)
  rw [cW_set (S' := uR S 8 a (some v)) hD ha.1 hq h0 rfl ((cE_6 (S := uR S 8 a (some v)) ha.2).trans (by simp (decide := true) [upr_e, upr_n, va_rf])) (fun b hb => cE_oR hb)] at hP hD1
  exact kk H locs ls hP hD1 hS hl
theorem cgI_51 (C : Cx0 own cc nL D ar X R9 j) (pc : Nat) {ix a : Nat} (hw : Cond.fieldLink own ix "java/util/ArrayList" "size" "I" ∈ gtbl) (ha : Is S a 6) (hd : decode cc pc = .ok (.getfield ix, 3)) (kk : j (cW ar S) k n (pc + 3) lv (.int (S.2.2.2.1 51 a) :: st)) : j (cW ar S) k n pc lv (.ref a :: st) := by
  obtain ⟨p, l, e, s, m, args, below, meth, c, A, Q, ⟨hx, hb, hml, hown, hts, hK, hA, hX, hXs⟩, rfl⟩ := C
  intro H locs ls hP hD hS hl
  obtain ⟨q, hq⟩ := cW_get ha.1 (cE_6 (ar := ar) ha.2)
  exact va_get (D := D) (ci := 6) (C := RJx4a65c) (T := TJx4a65c) (N := 3) hx hb hts gJx4a65c hown hK hP q hq rfl 2 (by decide) (hts _ hw) (fun _ h9 => h9) rfl hd (kk H locs ls hP hD hS hl)
theorem cpI_51 (C : Cx0 own cc nL D ar X R9 j) (pc : Nat) {ix a : Nat} {v : Int32} (hw : Cond.fieldLink own ix "java/util/ArrayList" "size" "I" ∈ gtbl) (ha : Is S a 6) (hd : decode cc pc = .ok (.putfield ix, 3)) (kk : j (cW ar (uI S 51 a v)) k n (pc + 3) lv st) : j (cW ar S) k n pc lv (.int v :: .ref a :: st) := by
  obtain ⟨p, l, e, s, m, args, below, meth, c, A, Q, ⟨hx, hb, hml, hown, hts, hK, hA, hX, hXs⟩, rfl⟩ := C
  intro H locs ls hP hD hS hl
  have h0 := cE_6 (ar := ar) ha.2
  obtain ⟨q, hq⟩ := cW_get ha.1 h0
  refine va_put (D := D) (ci := 6) (v := .int v) (ty := .int) (C := RJx4a65c) (T := TJx4a65c) (N := 3) hx hb hts gJx4a65c tyJx4a65c tyJx4a65c_ok nmJx4a65c hown hK hP hD hS q hq rfl 2 (by decide) (hts _ hw) (fun _ h9 => h9) rfl (by decide +kernel) rfl rfl (Nat.le_of_ble_eq_true rfl) hd (fun H locs hP hD1 hS => ?_)
  rw [cW_set (S' := uI S 51 a v) hD ha.1 hq h0 rfl ((cE_6 (S := uI S 51 a v) ha.2).trans (by simp (decide := true) [up2_e, up2_n, va_rf])) (fun b hb => cE_oI hb)] at hP hD1
  exact kk H locs ls hP hD1 hS hl
end CR
