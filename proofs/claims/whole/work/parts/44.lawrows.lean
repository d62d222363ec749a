def R_law : String := "EggHouseLaw"
def lw_P (b : Addr) (xs : List Int32) (args : Array Value) (s : State) : Prop := args = #[.ref b] ∧ s.IntsAt b xs ∧ xs.length ≤ 3072 ∧ (Jvm.Cond.and given_1 narrow_1).before args s = true
def lw_Q (_ : Array Value) (s : State) (o : Outcome) (t : State) : Prop := o = .returned (some (.int 1)) ∧ Framed s o t [] 600000 7302250
def lw_Z (below : List Frame) (a : Array Value) (s : State) : State → Prop := fun t => ∃ o, t.status = .running ∧ Ended t below o ∧ lw_Q a s o t
/-- the law's own end, with 1 on the stack, nothing written that was there before, its room as the claim has it -/
theorem lw_ret {p : Program} {l : Launch} {e : Env} {s : State} {m : MethodId} {below : List Frame} {meth : Method} {c : Code} {b : Nat} (hx : p.tables.exec = Jvm.exec) (hb : c.code = code) (hr : meth.sig.returnType = ret) (hlocks : meth.locks = false) {pc : Nat} {H : Heap} {ls : Array Slot} (hdg : decode code pc = .ok (.ireturn, 1)) : W p l e room_1 s m #[Value.ref b] below meth c H [] 600000 7302250 (lw_Z below #[Value.ref b] s) (F0 m pc ls [.int 1]) := by
  intro T hT X
  obtain ⟨fs, hret, hrun, hended, hW, hframe⟩ := X.leave (v := some (.int 1)) (hlocks := hlocks) (fun h => by rw [hr] at h; cases h)
  have hmeth' : T.vm.method? m = some meth := X.method'
  refine ⟨T.setFrames fs, ?_, .returned (some (.int 1)), hrun, hended, rfl, ⟨_, rfl⟩, hW, hframe⟩
  jvm_step X.here [X.here.top, hx, hb, hdg, hmeth', hr, ret, narrow_b1]
  (try refine ⟨rfl, ?_⟩); (try refine ⟨rfl, ?_⟩)
  first | (intro acts; rw [hret _ acts rfl rfl rfl]) | rw [hret _ _ rfl rfl rfl]
  exact Steps.refl _
/-- what holds at the law's entry: the machine, the code, the tables' words (any of lw_tbl by 'hts w (by decide +kernel)'), the script of L ints xs at the cell b, what the Statement gives of the start (any of its parts by flat_of_before) -/
def lw_At (p : Program) (s : State) (m : MethodId) (meth : Method) (c : Code) (b L : Nat) (xs : Nat → Int32) : Prop :=
  p.tables.exec = Jvm.exec ∧ c.code = code ∧ meth.sig.returnType = ret ∧ c.maxLocals = 4 ∧ s.vm.findClass R_law = some m.cls ∧ (∀ w ∈ lw_tbl, w.before #[Value.ref b] s = true) ∧ va_X b L xs s s.heap ∧ b < s.heap.size ∧ meth.locks = false ∧ (Jvm.Cond.and given_1 narrow_1).before #[Value.ref b] s = true
/-! the law's context -/
def CxL (D : va_G) (ar : Nat → ClassId) (X : XT) (b L : Nat) (xs : Nat → Int32) (j : jT) : Prop :=
  ∃ (p : Program) (l : Launch) (e : Env) (s : State) (m : MethodId) (below : List Frame) (meth : Method) (c : Code), Cz RL cL_law 4 D ar X p s m #[Value.ref b] meth c (fun q : Nat => s.heap.size ≤ q) ∧ (va_X b L xs s s.heap ∧ b < s.heap.size) ∧ (meth.sig.returnType = ret ∧ meth.locks = false) ∧ j = JJ p l e room_1 s m #[Value.ref b] below meth c (fun q : Nat => s.heap.size ≤ q) D 4 (lw_Z below #[Value.ref b] s)
section C44
variable {D : va_G} {ar : Nat → ClassId} {X : XT} {b L : Nat} {xs : Nat → Int32} {j : jT} {ws : va_W} {k n : Nat} {lv : List (Nat × Value)} {st : List Value}
theorem CxL.to (C : CxL D ar X b L xs j) : Cx0 RL cL_law 4 D ar X room_1 j := by
  obtain ⟨p, l, e, s, m, below, meth, c, hz, -, -, hj⟩ := C
  exact ⟨p, l, e, s, m, _, below, meth, c, _, _, hz, hj⟩
theorem r_sld (C : CxL D ar X b L xs j) (pc x : Nat) {i : Int32} (hi : i = nI x) (hx : x < L) (hL : L < 2 ^ 31) (hd : decode cL_law pc = .ok (.iaload, 1)) (kk : j ws k n (pc + 1) lv (.int (xs x) :: st)) : j ws k n pc lv (.int i :: .ref b :: st) := by
  obtain ⟨p, l, e, s, m, below, meth, c, ⟨hx9, hb, hml, hown, hts, hK, hA, hX, hXs⟩, ⟨hXX, hbl⟩, -, rfl⟩ := C
  intro H locs ls hP hD hS hl
  obtain ⟨h8, h9⟩ := nI_vp hi hx hL
  refine va_sld hx9 hb hXX hbl (Nat.not_le.mpr hbl) hS h8 hd ?_
  rw [h9]
  exact kk H locs ls hP hD hS hl
theorem r_slen (C : CxL D ar X b L xs j) (pc : Nat) (hd : decode cL_law pc = .ok (.arraylength, 1)) (kk : j ws k n (pc + 1) lv (.int (nI L) :: st)) : j ws k n pc lv (.ref b :: st) := by
  obtain ⟨p, l, e, s, m, below, meth, c, ⟨hx9, hb, hml, hown, hts, hK, hA, hX, hXs⟩, ⟨hXX, hbl⟩, -, rfl⟩ := C
  intro H locs ls hP hD hS hl
  exact va_slen hx9 hb hXX hbl (Nat.not_le.mpr hbl) hS hd (kk H locs ls hP hD hS hl)
theorem l_end (C : CxL D ar X b L xs j) (hk : k ≤ 600000) (hn : n ≤ 7302250) : j ws k n 784 lv [.int 1] := by
  obtain ⟨p, l, e, s, m, below, meth, c, ⟨hx9, hb, hml, hown, hts, hK, hA, hX, hXs⟩, -, ⟨hr, hlk⟩, rfl⟩ := C
  intro H locs ls hP hD hS hl
  refine va_forget (fun q hq => hS.2.2 q hq) ?_
  refine W.widen hk hn ?_
  exact lw_ret hx9 hb hr hlk dL_law_784
variable {S : CS} {M : Nat → Nat → Int32} {T : Int64} {h1 : Nat} {ad : Nat → Nat} {rest : List Value} {y : MethodName} {bytes : ByteArray} {maxL fr lo mc ms index a0 : Nat} {rt : Option FieldType} {As : List Value} {Ret : Option Value → va_W → Prop}
theorem l_callC (C : Cx0 RL cL_law 4 D ar X room_1 j) (pc np : Nat) (hM : Cn D ar X y bytes maxL rt fr lo mc ms (.ref a0 :: As) (cW ar S) Ret) (hR : Rm room_1 k n y bytes maxL rt fr lo mc ms np) (hl1 : Cond.methodLink RL index y ∈ gtbl) (hl2 : Cond.instanceMethod y ∈ gtbl) (hl3 : Cond.selects RX4 y y ∈ gtbl) (hb0 : Is S a0 4) (hn : As.length = np) (hr : (rest.map fun v => v.category).sum ≤ 8) (hd : decode cL_law pc = .ok (.invokevirtual index, 3))
    (kk : ∀ (r : Option Value) (wc' : va_W), Ret r wc' → j (wc' ++ ws) (k + mc) (n + ms) (pc + 3) lv (r.toList ++ rest)) : j (cW ar S ++ ws) k n pc lv (As.reverse ++ .ref a0 :: rest) := by
  obtain ⟨fs, he⟩ := cE_inr (ar := ar) (S := S) (a := a0) (kd := 4) (by decide) hb0.2
  obtain ⟨q, hq⟩ := cW_get hb0.1 he
  exact r_comm C (r_callV (wl := ws) C pc np hM hR hl1 hl2 hl3 q 4 hq rfl hn hr hd (fun r wc' h => r_comm C (kk r wc' h)))
theorem l_callM (C : Cx0 RL cL_law 4 D ar X room_1 j) (pc np : Nat) (hM : Cn D ar X y bytes maxL rt fr lo mc ms (.ref h1 :: As) (mW ar h1 ad M T) Ret) (hR : Rm room_1 k n y bytes maxL rt fr lo mc ms np) (hl1 : Cond.methodLink RL index y ∈ gtbl) (hl2 : Cond.instanceMethod y ∈ gtbl) (hl3 : Cond.selects RX5 y y ∈ gtbl) (hn : As.length = np) (hr : (rest.map fun v => v.category).sum ≤ 8) (hd : decode cL_law pc = .ok (.invokevirtual index, 3))
    (kk : ∀ (r : Option Value) (wc' : va_W), Ret r wc' → j (ws ++ wc') (k + mc) (n + ms) (pc + 3) lv (r.toList ++ rest)) : j (ws ++ mW ar h1 ad M T) k n pc lv (As.reverse ++ .ref h1 :: rest) :=
  r_callV (wl := ws) C pc np hM hR hl1 hl2 hl3 0 5 rfl rfl hn hr hd kk
theorem l_new5 (C : Cx0 RL cL_law 4 D ar X room_1 j) (pc : Nat) {ix : Nat} (hw : Cond.classLink RL ix RX5 ∈ gtbl) (hc : k + 1 ≤ room_1.cells) (hs : n + 38 ≤ room_1.slots) (hd : decode cL_law pc = .ok (.new ix, 3)) (kk : ∀ q : Nat, j (ws ++ [(q, .inr (5, mZ))]) (k + 1) (n + 38) (pc + 3) lv (.ref q :: st)) : j ws k n pc lv st := by
  obtain ⟨p, l, e, s, m, args, below, meth, c, A, Q, ⟨hx, hb, hml, hown, hts, hK, hA, hX, hXs⟩, rfl⟩ := C
  intro H locs ls hP hD hS hl
  refine va_new (ci := 5) (fs := mZ) (C := RX5) (T := TX5) (N := 38) hx hb hts gX5 tyX5 tyX5_ok hown (hts _ hw) (hts _ in_X5) (hts _ ini5) hK hP hD hS hA rfl (fun i hi => ?_) hc hs hd (fun q H1 hP1 hD1 hS1 => kk q H1 locs ls hP1 hD1 hS1 hl)
  rcases (show i = 0 ∨ i = 1 ∨ i = 2 ∨ i = 3 ∨ i = 4 ∨ i = 5 ∨ i = 6 ∨ i = 7 ∨ i = 8 ∨ i = 9 ∨ i = 10 ∨ i = 11 ∨ i = 12 ∨ i = 13 ∨ i = 14 ∨ i = 15 ∨ i = 16 ∨ i = 17 ∨ i = 18 ∨ i = 19 ∨ i = 20 ∨ i = 21 ∨ i = 22 ∨ i = 23 ∨ i = 24 ∨ i = 25 ∨ i = 26 ∨ i = 27 ∨ i = 28 ∨ i = 29 ∨ i = 30 ∨ i = 31 ∨ i = 32 ∨ i = 33 ∨ i = 34 ∨ i = 35 ∨ i = 36 ∨ i = 37 by omega) with rfl | rfl | rfl | rfl | rfl | rfl | rfl | rfl | rfl | rfl | rfl | rfl | rfl | rfl | rfl | rfl | rfl | rfl | rfl | rfl | rfl | rfl | rfl | rfl | rfl | rfl | rfl | rfl | rfl | rfl | rfl | rfl | rfl | rfl | rfl | rfl | rfl | rfl <;> rfl
end C44
/-! the start -/
theorem XC_start {p : Program} {s : State} {m : MethodId} {meth : Method} {c : Code} {b L : Nat} {xs : Nat → Int32} (C0 : lw_At p s m meth c b L xs) : ∃ tg te mi : Nat, XC tg te mi (fun q : Nat => s.heap.size ≤ q) s s.heap := by
  obtain ⟨hx, hb, hr, hml, hown, hts, hX, hbl, hlocks, hgv⟩ := C0
  have hg := flat_of_before _ hgv
  have hA : ∀ a : Nat, a < s.heap.size → ¬ (fun q : Nat => s.heap.size ≤ q) a := fun a h => Nat.not_le.mpr h
  obtain ⟨tg, eg, Tg⟩ := va_Tof (args := #[Value.ref b]) (s := s) (tm := .static "EggHouse" "GRADE_ENDS" "[I") (ty := .int) (N := 5) (f := fun j => .int (geN j)) (A := fun q : Nat => s.heap.size ≤ q) (by decide) (hg (Cond.arrayOf (.static "EggHouse" "GRADE_ENDS" "[I") .int) (by decide +kernel)) (va_eqt (hg (Cond.eq (.length (.static "EggHouse" "GRADE_ENDS" "[I")) (.int 5)) (by decide +kernel))) (fun i hi => by
    rcases (show i = 0 ∨ i = 1 ∨ i = 2 ∨ i = 3 ∨ i = 4 by omega) with rfl | rfl | rfl | rfl | rfl
    · exact va_eqt (hg (Cond.eq (.elem (.static "EggHouse" "GRADE_ENDS" "[I") (.int 0)) (.int 43)) (by decide +kernel))
    · exact va_eqt (hg (Cond.eq (.elem (.static "EggHouse" "GRADE_ENDS" "[I") (.int 1)) (.int 48)) (by decide +kernel))
    · exact va_eqt (hg (Cond.eq (.elem (.static "EggHouse" "GRADE_ENDS" "[I") (.int 2)) (.int 53)) (by decide +kernel))
    · exact va_eqt (hg (Cond.eq (.elem (.static "EggHouse" "GRADE_ENDS" "[I") (.int 3)) (.int 58)) (by decide +kernel))
    · exact va_eqt (hg (Cond.eq (.elem (.static "EggHouse" "GRADE_ENDS" "[I") (.int 4)) (.int 63)) (by decide +kernel))) hA
  obtain ⟨te, ee, Te⟩ := va_Tof (args := #[Value.ref b]) (s := s) (tm := .static "java/util/ArrayList" "DEFAULTCAPACITY_EMPTY_ELEMENTDATA" "[Ljava/lang/Object;") (ty := .object "java/lang/Object") (N := 0) (f := fun _ => .null) (A := fun q : Nat => s.heap.size ≤ q) (by decide) (hg (Cond.arrayOf (.static "java/util/ArrayList" "DEFAULTCAPACITY_EMPTY_ELEMENTDATA" "[Ljava/lang/Object;") (.object "java/lang/Object")) (by decide +kernel)) (va_eqt (hg (Cond.eq (.length (.static "java/util/ArrayList" "DEFAULTCAPACITY_EMPTY_ELEMENTDATA" "[Ljava/lang/Object;")) (.int 0)) (by decide +kernel))) (fun i hi => absurd hi (by omega)) hA
  obtain ⟨mi, hmi⟩ := va_Mi.of (args := #[Value.ref b]) (s := s) (C := "[Ljava/lang/Object;") (hg (Cond.isRef (.mirror "[Ljava/lang/Object;")) (by decide +kernel))
  refine ⟨tg, te, mi, ⟨va_Zof (hts (.laysStatic "EggHouse" "GRADE_ENDS" "[I") (by decide +kernel)) (hts (.initialized "EggHouse") (by decide +kernel)) eg hA, Tg, va_Zof (hts (.laysStatic "java/util/ArrayList" "DEFAULTCAPACITY_EMPTY_ELEMENTDATA" "[Ljava/lang/Object;") (by decide +kernel)) (hts (.initialized "java/util/ArrayList") (by decide +kernel)) ee hA, Te⟩, ⟨va_Nw.of rfl (hts (.methodLinkNest RX3 15 yX2_init "EggHouse") (by decide +kernel)), va_Nw.of rfl (hts (.methodLinkNest RX4 280 yX2_init "EggHouse") (by decide +kernel))⟩, ⟨va_Nw.of rfl (hts (.castable RX0 "java/lang/Object") (by decide +kernel)), va_Nw.of rfl (hts (.castable RX1 "java/lang/Object") (by decide +kernel)), va_Nw.of rfl (hts (.castable RX2 "java/lang/Object") (by decide +kernel))⟩, va_AO.of (hts (.arrayOver (.object "EggHouse$Egg")) (by decide +kernel)), va_AO.of (hts (.arrayOver (.object "EggHouse$Packer")) (by decide +kernel)), va_AO.of (hts (.arrayOver (.object "java/lang/Object")) (by decide +kernel)), ?_, hmi, va_Dc.of (hts (.declares ⟨"java/lang/Object", "getClass", "()Ljava/lang/Class;"⟩) (by decide +kernel))⟩
  exact (show va_AOA .int s from hts (.arrayOver (.array .int)) (by decide +kernel))
theorem ty_obj {s : State} {C : String} (h : va_AO C s) : ∃ cA : ClassId, ArrOfT s cA (.object C) ∧ va_RA s cA (.object C) := by
  obtain ⟨comp, c, k, h1, h2, h3, h4, h5⟩ := Cond.arrayOver_spec (va_AO.use (A := #[]) h)
  exact ⟨c, fun N z => ⟨(fun k h => by cases h), k, h3, comp, h4⟩, k, comp, h3, h4, h1, h5⟩
theorem K_start {p : Program} {s : State} {m : MethodId} {meth : Method} {c : Code} {b L : Nat} {xs : Nat → Int32} (C0 : lw_At p s m meth c b L xs) {tg te mi : Nat} {A : Nat → Prop} (hXs : XC tg te mi A s s.heap) : ∃ (D : va_G) (ar : Nat → ClassId), va_K D cls7 (tys6 ar) s := by
  obtain ⟨hx, hb, hr, hml, hown, hts0, hX, hbl, hlocks, hgv⟩ := C0
  have hts : ∀ w ∈ gtbl, w.before #[Value.ref b] s = true := fun w h => hts0 w (gtbl_of h)
  obtain ⟨c0, i0, k0_⟩ := u_known (C := RX0) (T := TX0) (N := 9) (n := 9) hts gX0 (hts _ in_X0)
  obtain ⟨c1, i1, k1⟩ := u_known (C := RX1) (T := TX1) (N := 4) (n := 4) hts gX1 (hts _ in_X1)
  obtain ⟨c2, i2, k2⟩ := u_known (C := RX2) (T := TX2) (N := 9) (n := 9) hts gX2 (hts _ in_X2)
  obtain ⟨c3, i3, k3⟩ := u_known (C := RX3) (T := TX3) (N := 5) (n := 5) hts gX3 (hts _ in_X3)
  obtain ⟨c4, i4, k4⟩ := u_known (C := RX4) (T := TX4) (N := 11) (n := 11) hts gX4 (hts _ in_X4)
  obtain ⟨c5, i5, k5⟩ := u_known (C := RX5) (T := TX5) (N := 38) (n := 38) hts gX5 (hts _ in_X5)
  obtain ⟨c6, i6, k6⟩ := u_known (C := RJx4a65c) (T := TJx4a65c) (N := 3) (n := 3) hts gJx4a65c (hts _ in_Jx4a65c)
  obtain ⟨a0, k0, p0, f0, g0, e0⟩ := Cond.arrayClass_spec (hts _ ac_I)
  obtain ⟨a1, k1', p1, f1, g1, e1⟩ := Cond.arrayClass_spec (hts _ ac_Z)
  obtain ⟨a2, f2, g2⟩ := ty_obj hXs.2.2.2.1
  obtain ⟨a3, f3, g3⟩ := ty_obj hXs.2.2.2.2.1
  obtain ⟨a4, f4, g4⟩ := ty_obj hXs.2.2.2.2.2.1
  obtain ⟨p5, a5, k5', f5, -, h5, g5, e5⟩ := va_AOA.spec hXs.2.2.2.2.2.2.1
  refine ⟨(fun k => [c0, c1, c2, c3, c4, c5, c6].getD k c0, fun k => [i0, i1, i2, i3, i4, i5, i6].getD k i0), fun k => [a0, a1, a2, a3, a4, a5].getD k a0, fun k q hq => ?_, fun k q hq => ?_⟩
  · match k, hq with
    | 0, hq => cases hq; exact k0_
    | 1, hq => cases hq; exact k1
    | 2, hq => cases hq; exact k2
    | 3, hq => cases hq; exact k3
    | 4, hq => cases hq; exact k4
    | 5, hq => cases hq; exact k5
    | 6, hq => cases hq; exact k6
    | k + 7, hq => simp [cls7] at hq
  · match k, hq with
    | 0, hq => cases hq; exact ⟨fun N z => ⟨(fun k h => by cases h), k0, g0, p0, e0⟩, f0⟩
    | 1, hq => cases hq; exact ⟨fun N z => ⟨(fun k h => by cases h), k1', g1, p1, e1⟩, f1⟩
    | 2, hq => cases hq; exact ⟨f2, g2⟩
    | 3, hq => cases hq; exact ⟨f3, g3⟩
    | 4, hq => cases hq; exact ⟨f4, g4⟩
    | 5, hq => cases hq; exact ⟨fun N z => ⟨(fun k h => by cases h), k5', h5, p5, g5⟩, e5⟩
    | k + 6, hq => simp [tys6] at hq
