/-! the class: what of the start its methods use (statics, links in a nest, castable), its arrays, new, calls -/
def va_AOA (ty : FieldType) (U : State) : Prop := (Cond.arrayOver (.array ty)).before #[] U = true
theorem va_AOA.use {ty : FieldType} {A : Array Value} {U : State} (h : va_AOA ty U) : (Cond.arrayOver (.array ty)).before A U = true := h
theorem va_AOA.spec {ty : FieldType} {s : State} (h : va_AOA ty s) : ∃ comp c k, s.vm.findClass (FieldType.array ty).toString = some comp ∧ (s.vm.classes.findIdx? fun x => match x.kind with | .array component _ => component == comp | _ => false) = some c ∧ s.vm.classes[c]? = some k ∧ k.kind = .array comp (.array ty) ∧ s.vm.findClass ("[" ++ (FieldType.array ty).toString) = some c := by
  unfold va_AOA Cond.before at h
  simp only [Cond.holds, Cond.value, beq_iff_eq] at h
  cases hc : s.vm.findClass (FieldType.array ty).toString with
  | none => simp [hc] at h
  | some comp =>
    simp only [hc, Option.bind_some, Option.bind_eq_some_iff, Option.map_eq_some_iff] at h
    obtain ⟨c, hi, k, hk, hb⟩ := h
    obtain ⟨hlt, hp, -⟩ := Array.findIdx?_eq_some_iff_getElem.mp hi
    have hkk : s.vm.classes[c] = k := (Array.getElem?_eq_some_iff.mp hk).2
    rw [hkk] at hp
    cases hkind : k.kind with
    | array component ty2 =>
      rw [hkind] at hb hp
      simp at hb hp
      exact ⟨comp, c, k, rfl, hi, hk, by rw [hkind, hp, hb.1], hb.2⟩
    | _ => rw [hkind] at hb; simp at hb
theorem va_AOA.moved {ty : FieldType} {u U : State} (hvm : u.vm.Alike U.vm) (h : va_AOA ty u) : va_AOA ty U := by
  obtain ⟨comp, c, k, h1, h2, h3, h4, h5⟩ := va_AOA.spec h
  obtain ⟨k', hk', he⟩ := hvm.2.2 _ _ h3
  have hi : (U.vm.classes.findIdx? fun (x : Class) => match x.kind with | .array component _ => component == comp | _ => false) = some c := by
    have e1 := (va_idx_bare U.vm comp).symm
    have hbe : U.vm.bare = u.vm.bare := by first | exact hvm.bare_eq | exact hvm.bare_eq.symm
    rw [hbe] at e1
    exact (e1.trans (va_idx_bare u.vm comp)).trans h2
  have hkind : k'.kind = .array comp (.array ty) := by rw [he]; exact h4
  have f1 : U.vm.findClass (FieldType.array ty).toString = some comp := by rw [hvm.findClass]; exact h1
  have f2 : U.vm.findClass ("[" ++ (FieldType.array ty).toString) = some c := by rw [hvm.findClass]; exact h5
  unfold va_AOA Cond.before Cond.holds
  simp only [Cond.value]
  rw [f1, Option.bind_some]
  refine (congrArg (fun o : Option Nat => (o.bind (fun c => (U.vm.classes[c]?).map fun (k : Class) => match k.kind with | .array _ ty2 => decide (ty2 = FieldType.array ty) && decide (U.vm.findClass ("[" ++ (FieldType.array ty).toString) = some c) | _ => false) == some true)) hi).trans ?_
  simp [hk', hkind, f2]
def geN : Nat → Int32
  | 0 => 43
  | 1 => 48
  | 2 => 53
  | 3 => 58
  | _ => 63
def XC (tg te mi : Nat) : XT := fun A U H =>
  (va_Z "EggHouse" "GRADE_ENDS" "[I" (.ref tg) A U H ∧ va_T .int tg 5 (fun j => .int (geN j)) A U H ∧ va_Z "java/util/ArrayList" "DEFAULTCAPACITY_EMPTY_ELEMENTDATA" "[Ljava/lang/Object;" (.ref te) A U H ∧ va_T (.object "java/lang/Object") te 0 (fun _ => .null) A U H) ∧
  (va_Nw (.methodLinkNest RX3 15 yX2_init "EggHouse") U ∧ va_Nw (.methodLinkNest RX4 280 yX2_init "EggHouse") U) ∧ (va_Nw (.castable RX0 "java/lang/Object") U ∧ va_Nw (.castable RX1 "java/lang/Object") U ∧ va_Nw (.castable RX2 "java/lang/Object") U) ∧
  va_AO "EggHouse$Egg" U ∧ va_AO "EggHouse$Packer" U ∧ va_AO "java/lang/Object" U ∧ va_AOA .int U ∧ va_Mi "[Ljava/lang/Object;" mi U ∧ va_Dc U
theorem xz_lt {C n d : String} {v : Value} {A B : Nat → Prop} {U : State} {H : Heap} (hAB : ∀ q : Nat, q < H.size → B q → A q) (h : va_Z C n d v A U H) : va_Z C n d v B U H := by
  obtain ⟨cf, kf, fi, f, a, cell, h1, h2, h3, h4, h5, h6, h7, h8⟩ := h
  exact ⟨cf, kf, fi, f, a, cell, h1, h2, h3, h4, h5, h6, h7, fun z => h8 (hAB a (Array.getElem?_eq_some_iff.mp h5).1 z)⟩
theorem xt_lt {ty : FieldType} {t N : Nat} {f : Nat → Value} {A B : Nat → Prop} {U : State} {H : Heap} (hAB : ∀ q : Nat, q < H.size → B q → A q) (h : va_T ty t N f A U H) : va_T ty t N f B U H := by
  obtain ⟨cell, h1, h2, h3, h4, h5, h6, h7⟩ := h
  exact ⟨cell, h1, h2, h3, h4, h5, h6, fun z => h7 (hAB t (Array.getElem?_eq_some_iff.mp h1).1 z)⟩
theorem XC_ok {tg te mi : Nat} : Xok (XC tg te mi) := by
  refine ⟨fun A U V H e h => ?_, fun A U V H hW h => ?_, fun A U H H1 hz hk h => ?_, fun A B U H hAB h => ?_⟩
  · have al : U.vm.Alike V.vm := by rw [e]; exact Vm.Alike.refl _
    obtain ⟨⟨a1, a2, a3, a4⟩, ⟨b1, b2⟩, ⟨c1, c2, c3⟩, d1, d2, d3, d4, d5, d6⟩ := h
    exact ⟨⟨a1.moved al, a2.moved al, a3.moved al, a4.moved al⟩, ⟨va_Nw.same rfl e b1, va_Nw.same rfl e b2⟩, ⟨va_Nw.same rfl e c1, va_Nw.same rfl e c2, va_Nw.same rfl e c3⟩, d1.moved al, d2.moved al, d3.moved al, d4.moved al, d5.moved al, d6.moved al⟩
  · have al : U.vm.Alike V.vm := hW.alike
    obtain ⟨⟨a1, a2, a3, a4⟩, ⟨b1, b2⟩, ⟨c1, c2, c3⟩, d1, d2, d3, d4, d5, d6⟩ := h
    exact ⟨⟨a1.moved al, a2.moved al, a3.moved al, a4.moved al⟩, ⟨va_Nw.warmM hW b1, va_Nw.warmM hW b2⟩, ⟨va_Nw.warmC hW c1, va_Nw.warmC hW c2, va_Nw.warmC hW c3⟩, d1.moved al, d2.moved al, d3.moved al, d4.moved al, d5.moved al, d6.moved al⟩
  · obtain ⟨⟨a1, a2, a3, a4⟩, b, c, d⟩ := h
    exact ⟨⟨a1.kept hk, a2.kept hk, a3.kept hk, a4.kept hk⟩, b, c, d⟩
  · obtain ⟨⟨a1, a2, a3, a4⟩, b, c, d⟩ := h
    exact ⟨⟨xz_lt hAB a1, xt_lt hAB a2, xz_lt hAB a3, xt_lt hAB a4⟩, b, c, d⟩
section CA
variable {own : String} {cc : ByteArray} {nL : Nat} {D : va_G} {ar : Nat → ClassId} {tg te mi : Nat} {X : XT} {R : Room} {j : jT}
variable {S : CS} {k n : Nat} {lv : List (Nat × Value)} {st : List Value}
theorem Is.new {S : CS} {q kd : Nat} : Is (nO S q kd) q kd := ⟨List.mem_append_right _ (List.mem_singleton.mpr rfl), va_up_self _ _ _⟩
theorem Is.newA {S : CS} {q kd n : Nat} : Is (nA S q kd n) q kd := ⟨List.mem_append_right _ (List.mem_singleton.mpr rfl), va_up_self _ _ _⟩
theorem Is.ne {S : CS} {a q kd : Nat} (h : Is S a kd) (hq : q ∉ S.1) : a ≠ q := fun e => hq (e ▸ h.1)
theorem Is.old {S : CS} {a q kd kd2 : Nat} (h : Is S a kd) (hq : q ∉ S.1) : Is (nO S q kd2) a kd := ⟨List.mem_append_left _ h.1, (va_up_ne _ _ (h.ne hq)).trans h.2⟩
theorem Is.oldA {S : CS} {a q kd kd2 n : Nat} (h : Is S a kd) (hq : q ∉ S.1) : Is (nA S q kd2 n) a kd := ⟨List.mem_append_left _ h.1, (va_up_ne _ _ (h.ne hq)).trans h.2⟩
/-- arrays of numbers -/
theorem ca_ild (C : Cx0 own cc nL D ar X R j) (pc x : Nat) {a : Nat} {i : Int32} (ha : Is S a 7) (hi : i = nI x) (hlt : x < S.2.2.1 a) (hN : S.2.2.1 a < 2 ^ 31) (hd : decode cc pc = .ok (.iaload, 1)) (kk : j (cW ar S) k n (pc + 1) lv (.int (S.2.2.2.2.2.2.1 a x) :: st)) : j (cW ar S) k n pc lv (.int i :: .ref a :: st) := by
  obtain ⟨p, l, e, s, m, args, below, meth, c, A, Q, ⟨hx, hb, hml, hown, hts, hK, hA, hX, hXs⟩, rfl⟩ := C
  intro H locs ls hP hD hS hl
  obtain ⟨h8, h9⟩ := nI_vp hi hlt hN
  obtain ⟨q, hq⟩ := cW_get ha.1 (cE_7 (ar := ar) ha.2)
  refine va_iald hx hb hK hP q 0 hq rfl h8 hd ?_
  rw [h9]
  exact kk H locs ls hP hD hS hl
theorem ca_ist (C : Cx0 own cc nL D ar X R j) (pc x : Nat) {a : Nat} {i v : Int32} (ha : Is S a 7) (hi : i = nI x) (hlt : x < S.2.2.1 a) (hN : S.2.2.1 a < 2 ^ 31) (hd : decode cc pc = .ok (.iastore, 1)) (kk : j (cW ar (uA S a x v)) k n (pc + 1) lv st) : j (cW ar S) k n pc lv (.int v :: .int i :: .ref a :: st) := by
  obtain ⟨p, l, e, s, m, args, below, meth, c, A, Q, ⟨hx, hb, hml, hown, hts, hK, hA, hX, hXs⟩, rfl⟩ := C
  intro H locs ls hP hD hS hl
  obtain ⟨h8, h9⟩ := nI_vp hi hlt hN
  have h0 := cE_7 (ar := ar) ha.2
  obtain ⟨q, hq⟩ := cW_get ha.1 h0
  refine va_iast hx hb hK hP hD hS q 0 hq rfl h8 hd (fun H locs hP hD1 hS => ?_)
  rw [h9, cW_set (S' := uA S a x v) hD ha.1 hq h0 rfl ((cE_7 (S := uA S a x v) ha.2).trans (by simp [up2_s])) (fun b hb => cE_oA hb)] at hP hD1
  exact kk H locs ls hP hD1 hS hl
theorem ca_len (C : Cx0 own cc nL D ar X R j) (pc : Nat) {a kd : Nat} (hkd : kd = 7 ∨ kd = 8 ∨ kd = 9 ∨ kd = 10 ∨ kd = 11) (ha : Is S a kd) (hd : decode cc pc = .ok (.arraylength, 1)) (kk : j (cW ar S) k n (pc + 1) lv (.int (nI (S.2.2.1 a)) :: st)) : j (cW ar S) k n pc lv (.ref a :: st) := by
  obtain ⟨p, l, e, s, m, args, below, meth, c, A, Q, ⟨hx, hb, hml, hown, hts, hK, hA, hX, hXs⟩, rfl⟩ := C
  intro H locs ls hP hD hS hl
  rcases hkd with rfl | rfl | rfl | rfl | rfl
  · obtain ⟨q, hq⟩ := cW_get ha.1 (cE_7 (ar := ar) ha.2)
    exact va_alen hx hb hK hP q 0 hq rfl rfl hd (kk H locs ls hP hD hS hl)
  · obtain ⟨q, hq⟩ := cW_get ha.1 (cE_8 (ar := ar) ha.2)
    exact va_alen hx hb hK hP q 2 hq rfl rfl hd (kk H locs ls hP hD hS hl)
  · obtain ⟨q, hq⟩ := cW_get ha.1 (cE_9 (ar := ar) ha.2)
    exact va_alen hx hb hK hP q 3 hq rfl rfl hd (kk H locs ls hP hD hS hl)
  · obtain ⟨q, hq⟩ := cW_get ha.1 (cE_10 (ar := ar) ha.2)
    exact va_alen hx hb hK hP q 4 hq rfl rfl hd (kk H locs ls hP hD hS hl)
  · obtain ⟨q, hq⟩ := cW_get ha.1 (cE_11 (ar := ar) ha.2)
    exact va_alen hx hb hK hP q 5 hq rfl rfl hd (kk H locs ls hP hD hS hl)
/-- arrays of references: what stands at a place -/
theorem ca_ald (C : Cx0 own cc nL D ar X R j) (pc x : Nat) {a kd : Nat} {i : Int32} {v : Option Nat} (hkd : kd = 8 ∨ kd = 9 ∨ kd = 10 ∨ kd = 11) (ha : Is S a kd) (hi : i = nI x) (hlt : x < S.2.2.1 a) (hN : S.2.2.1 a < 2 ^ 31) (hv : S.2.2.2.2.2.2.2 a x = v) (hd : decode cc pc = .ok (.aaload, 1)) (kk : j (cW ar S) k n (pc + 1) lv (va_rf v :: st)) : j (cW ar S) k n pc lv (.int i :: .ref a :: st) := by
  obtain ⟨p, l, e, s, m, args, below, meth, c, A, Q, ⟨hx, hb, hml, hown, hts, hK, hA, hX, hXs⟩, rfl⟩ := C
  intro H locs ls hP hD hS hl
  obtain ⟨h8, h9⟩ := nI_vp hi hlt hN
  subst hv
  rcases hkd with rfl | rfl | rfl | rfl
  · obtain ⟨q, hq⟩ := cW_get ha.1 (cE_8 (ar := ar) ha.2)
    refine va_aldq hx hb hK hP q 2 hq rfl h8 hd ?_
    rw [h9]
    exact kk H locs ls hP hD hS hl
  · obtain ⟨q, hq⟩ := cW_get ha.1 (cE_9 (ar := ar) ha.2)
    refine va_aldq hx hb hK hP q 3 hq rfl h8 hd ?_
    rw [h9]
    exact kk H locs ls hP hD hS hl
  · obtain ⟨q, hq⟩ := cW_get ha.1 (cE_10 (ar := ar) ha.2)
    refine va_aldq hx hb hK hP q 4 hq rfl h8 hd ?_
    rw [h9]
    exact kk H locs ls hP hD hS hl
  · obtain ⟨q, hq⟩ := cW_get ha.1 (cE_11 (ar := ar) ha.2)
    have hlt9 : i.toNatClampNeg < S.2.2.1 a := Nat.not_le.mp fun q => h8 (Or.inr q)
    refine W.aald (v := va_rf (S.2.2.2.2.2.2.2 a i.toNatClampNeg)) (ty := .array .int) hx hb (hP q _ hq) ((hK.2 5 _ rfl).1 (S.2.2.1 a) (fun j => va_rf (S.2.2.2.2.2.2.2 a j))) rfl (fun q => by cases q) (by show ¬ (i < 0 ∨ (arrV _ _ _).slots.size ≤ _); rw [arrV_size]; exact h8) (by show (arrV _ _ _).slots[_]? = _; rw [arrV_read _ _ hlt9]) rfl rfl hd ?_
    rw [h9]
    exact kk H locs ls hP hD hS hl
/-- line[x] = an egg; packers[x] = a packer -/
theorem ca_astE (C : Cx0 own cc nL D ar X R j) (pc x : Nat) {a v : Nat} {i : Int32} (ha : Is S a 8) (hv : Is S v 0) (hi : i = nI x) (hlt : x < S.2.2.1 a) (hN : S.2.2.1 a < 2 ^ 31) (hd : decode cc pc = .ok (.aastore, 1)) (kk : j (cW ar (uB S a (va_up (S.2.2.2.2.2.2.2 a) x (some v)))) k n (pc + 1) lv st) : j (cW ar S) k n pc lv (.ref v :: .int i :: .ref a :: st) := by
  obtain ⟨p, l, e, s, m, args, below, meth, c, A, Q, ⟨hx, hb, hml, hown, hts, hK, hA, hX, hXs⟩, rfl⟩ := C
  intro H locs ls hP hD hS hl
  obtain ⟨h8, h9⟩ := nI_vp hi hlt hN
  have h0 := cE_8 (ar := ar) ha.2
  obtain ⟨q, hq⟩ := cW_get ha.1 h0
  obtain ⟨q2, hq2⟩ := cW_get hv.1 (cE_0 (ar := ar) hv.2)
  refine va_astq (r := (RX0, TX0, 9)) hx hb hK hP hD hS q 2 q2 0 hq rfl hq2 rfl h8 hd (fun H locs hP hD1 hS => ?_)
  rw [h9, cW_set (S' := uB S a (va_up (S.2.2.2.2.2.2.2 a) x (some v))) hD ha.1 hq h0 rfl ((cE_8 (S := uB S a _) ha.2).trans (by simp [va_up_self])) (fun b hb => cE_oB hb)] at hP hD1
  exact kk H locs ls hP hD1 hS hl
theorem ca_astP (C : Cx0 own cc nL D ar X R j) (pc x : Nat) {a v : Nat} {i : Int32} (ha : Is S a 9) (hv : Is S v 3) (hi : i = nI x) (hlt : x < S.2.2.1 a) (hN : S.2.2.1 a < 2 ^ 31) (hd : decode cc pc = .ok (.aastore, 1)) (kk : j (cW ar (uB S a (va_up (S.2.2.2.2.2.2.2 a) x (some v)))) k n (pc + 1) lv st) : j (cW ar S) k n pc lv (.ref v :: .int i :: .ref a :: st) := by
  obtain ⟨p, l, e, s, m, args, below, meth, c, A, Q, ⟨hx, hb, hml, hown, hts, hK, hA, hX, hXs⟩, rfl⟩ := C
  intro H locs ls hP hD hS hl
  obtain ⟨h8, h9⟩ := nI_vp hi hlt hN
  have h0 := cE_9 (ar := ar) ha.2
  obtain ⟨q, hq⟩ := cW_get ha.1 h0
  obtain ⟨q2, hq2⟩ := cW_get hv.1 (cE_3 (ar := ar) hv.2)
  refine va_astq (r := (RX3, TX3, 5)) hx hb hK hP hD hS q 3 q2 3 hq rfl hq2 rfl h8 hd (fun H locs hP hD1 hS => ?_)
  rw [h9, cW_set (S' := uB S a (va_up (S.2.2.2.2.2.2.2 a) x (some v))) hD ha.1 hq h0 rfl ((cE_9 (S := uB S a _) ha.2).trans (by simp [va_up_self])) (fun b hb => cE_oB hb)] at hP hD1
  exact kk H locs ls hP hD1 hS hl
/-- line[x] = null; a list's place = null -/
theorem ca_astN (C : Cx0 own cc nL D ar X R j) (pc x : Nat) {a kd : Nat} {i : Int32} (hkd : kd = 8 ∨ kd = 10) (ha : Is S a kd) (hi : i = nI x) (hlt : x < S.2.2.1 a) (hN : S.2.2.1 a < 2 ^ 31) (hd : decode cc pc = .ok (.aastore, 1)) (kk : j (cW ar (uB S a (va_up (S.2.2.2.2.2.2.2 a) x none))) k n (pc + 1) lv st) : j (cW ar S) k n pc lv (.null :: .int i :: .ref a :: st) := by
  obtain ⟨p, l, e, s, m, args, below, meth, c, A, Q, ⟨hx, hb, hml, hown, hts, hK, hA, hX, hXs⟩, rfl⟩ := C
  intro H locs ls hP hD hS hl
  obtain ⟨h8, h9⟩ := nI_vp hi hlt hN
  rcases hkd with rfl | rfl
  · have h0 := cE_8 (ar := ar) ha.2
    obtain ⟨q, hq⟩ := cW_get ha.1 h0
    refine va_astqN hx hb hK hP hD hS q 2 hq rfl h8 hd (fun H locs hP hD1 hS => ?_)
    rw [h9, cW_set (S' := uB S a (va_up (S.2.2.2.2.2.2.2 a) x none)) hD ha.1 hq h0 rfl ((cE_8 (S := uB S a _) ha.2).trans (by simp [va_up_self])) (fun b hb => cE_oB hb)] at hP hD1
    exact kk H locs ls hP hD1 hS hl
  · have h0 := cE_10 (ar := ar) ha.2
    obtain ⟨q, hq⟩ := cW_get ha.1 h0
    refine va_astqN hx hb hK hP hD hS q 4 hq rfl h8 hd (fun H locs hP hD1 hS => ?_)
    rw [h9, cW_set (S' := uB S a (va_up (S.2.2.2.2.2.2.2 a) x none)) hD ha.1 hq h0 rfl ((cE_10 (S := uB S a _) ha.2).trans (by simp [va_up_self])) (fun b hb => cE_oB hb)] at hP hD1
    exact kk H locs ls hP hD1 hS hl
/-- an element of a list: an egg, an order, a pack -/
def El (S : CS) (v : Nat) : Prop := Is S v 0 ∨ Is S v 1 ∨ Is S v 2
theorem El.any {s : State} {H : Heap} {A : Nat → Prop} {v : Nat} (h : El S v) (hK : va_K D cls7 (tys6 ar) s) (hP : va_P D cls7 (cW ar S) H) (hXs : XC tg te mi A s s.heap) : va_Any "java/lang/Object" s H v := by
  have key : ∀ {C : String}, va_Nw (.castable C "java/lang/Object") s → ∀ comp c0 : ClassId, s.vm.findClass "java/lang/Object" = some comp → s.vm.findClass C = some c0 → s.vm.assignable c0 comp = true := fun hc comp c0 e1 e2 => by
    obtain ⟨c1, t1, f1, f2, f3⟩ := Cond.castable_spec (va_Nw.use (A := #[]) rfl hc)
    cases f1.symm.trans e2
    cases f2.symm.trans e1
    exact f3
  rcases h with h | h | h
  · obtain ⟨q, hq⟩ := cW_get h.1 (cE_0 (ar := ar) h.2)
    exact va_rAny (r := (RX0, TX0, 9)) hK hP hq rfl (key hXs.2.2.1.1)
  · obtain ⟨q, hq⟩ := cW_get h.1 (cE_1 (ar := ar) h.2)
    exact va_rAny (r := (RX1, TX1, 4)) hK hP hq rfl (key hXs.2.2.1.2.1)
  · obtain ⟨q, hq⟩ := cW_get h.1 (cE_2 (ar := ar) h.2)
    exact va_rAny (r := (RX2, TX2, 9)) hK hP hq rfl (key hXs.2.2.1.2.2)
theorem ca_astO (C : Cx0 own cc nL D ar (XC tg te mi) R j) (pc x : Nat) {a v : Nat} {i : Int32} (ha : Is S a 10) (hv : El S v) (hi : i = nI x) (hlt : x < S.2.2.1 a) (hN : S.2.2.1 a < 2 ^ 31) (hd : decode cc pc = .ok (.aastore, 1)) (kk : j (cW ar (uB S a (va_up (S.2.2.2.2.2.2.2 a) x (some v)))) k n (pc + 1) lv st) : j (cW ar S) k n pc lv (.ref v :: .int i :: .ref a :: st) := by
  obtain ⟨p, l, e, s, m, args, below, meth, c, A, Q, ⟨hx, hb, hml, hown, hts, hK, hA, hX, hXs⟩, rfl⟩ := C
  intro H locs ls hP hD hS hl
  obtain ⟨h8, h9⟩ := nI_vp hi hlt hN
  have h0 := cE_10 (ar := ar) ha.2
  obtain ⟨q, hq⟩ := cW_get ha.1 h0
  refine va_astqM hx hb hK hP hD hS q 4 hq rfl (hv.any hK hP hXs) h8 hd (fun H locs hP hD1 hS => ?_)
  rw [h9, cW_set (S' := uB S a (va_up (S.2.2.2.2.2.2.2 a) x (some v))) hD ha.1 hq h0 rfl ((cE_10 (S := uB S a _) ha.2).trans (by simp [va_up_self])) (fun b hb => cE_oB hb)] at hP hD1
  exact kk H locs ls hP hD1 hS hl
/-- new Object[N] -/
theorem ca_newO (C : Cx0 own cc nL D ar (XC tg te mi) R j) (pc N' : Nat) {ix : Nat} {i : Int32} (hw : Cond.classLink own ix "java/lang/Object" ∈ gtbl) (hi : i = nI N') (hN : N' < 2 ^ 20) (hc : k + 1 ≤ R.cells) (hs : n + N' ≤ R.slots) (hd : decode cc pc = .ok (.anewarray ix, 3)) (kk : ∀ q, q ∉ S.1 → j (cW ar (nA S q 10 N')) (k + 1) (n + N') (pc + 3) lv (.ref q :: st)) : j (cW ar S) k n pc lv (.int i :: st) := by
  obtain ⟨p, l, e, s, m, args, below, meth, c, A, Q, ⟨hx, hb, hml, hown, hts, hK, hA, hX, hXs⟩, rfl⟩ := C
  intro H locs ls hP hD hS hl
  subst hi
  refine va_newq (C := "java/lang/Object") hx hb hown (hts _ hw) hXs.2.2.2.2.2.1 hK hP hD hS hA (nI_pos (by omega)) (nI_clamp (by omega)) (by omega) hc hs hd (fun q cA H1 hK1 hP1 hD1 hS1 => ?_)
  have hq := cW_fresh hD1
  have e1 : cA = ar 4 := by
    have r1 := (hK1.2 6 _ rfl).2
    have r2 := (hK.2 4 _ rfl).2
    obtain ⟨-, -, -, -, -, f1⟩ := r1
    obtain ⟨-, -, -, -, -, f2⟩ := r2
    exact Option.some.inj (f1.symm.trans f2)
  subst e1
  rw [cW_push (S' := nA S q 10 N') hq rfl ((cE_10 (va_up_self _ _ _)).trans (by simp [va_up_self])) (fun b hb => cE_oN hb)] at hP1 hD1
  exact kk q hq H1 locs ls hP1 hD1 hS1 hl
theorem ca_newI (C : Cx0 own cc nL D ar X R j) (pc N' : Nat) {i : Int32} (hi : i = nI N') (hN : N' < 2 ^ 20) (hc : k + 1 ≤ R.cells) (hs : n + N' ≤ R.slots) (hd : decode cc pc = .ok (.newarray .int, 2)) (kk : ∀ q, q ∉ S.1 → j (cW ar (nA S q 7 N')) (k + 1) (n + N') (pc + 2) lv (.ref q :: st)) : j (cW ar S) k n pc lv (.int i :: st) := by
  obtain ⟨p, l, e, s, m, args, below, meth, c, A, Q, ⟨hx, hb, hml, hown, hts, hK, hA, hX, hXs⟩, rfl⟩ := C
  intro H locs ls hP hD hS hl
  subst hi
  refine va_newa (atype := .int) (a0 := (N', .inl (fun _ => 0))) hx hb (hts _ ac_I) rfl hK hP hD hS hA (fun cA => rfl) (nI_pos (by omega)) (nI_clamp (by omega)) (by show N' * 4 ≤ _; omega) hc hs hd (fun q cA H1 hK1 hP1 hD1 hS1 => ?_)
  have hq := cW_fresh hD1
  have e1 : cA = ar 0 := by
    have r1 := (hK1.2 6 _ rfl).2
    have r2 := (hK.2 0 _ rfl).2
    exact Option.some.inj (r1.symm.trans r2)
  subst e1
  rw [cW_push (S' := nA S q 7 N') hq rfl ((cE_7 (va_up_self _ _ _)).trans (by simp [va_up_self])) (fun b hb => cE_oN hb)] at hP1 hD1
  exact kk q hq H1 locs ls hP1 hD1 hS1 hl
/-- the two statics -/
theorem ca_ge (C : Cx0 own cc nL D ar (XC tg te mi) R j) (pc : Nat) {ix : Nat} (hw : Cond.fieldLink own ix "EggHouse" "GRADE_ENDS" "[I" ∈ gtbl) (hd : decode cc pc = .ok (.getstatic ix, 3)) {ws : va_W} (kk : j ws k n (pc + 3) lv (.ref tg :: st)) : j ws k n pc lv st := by
  obtain ⟨p, l, e, s, m, args, below, meth, c, A, Q, ⟨hx, hb, hml, hown, hts, hK, hA, hX, hXs⟩, rfl⟩ := C
  intro H locs ls hP hD hS hl
  exact va_gets hx hb hXs.1.1 hS hown (hts _ hw) (fun _ h => h) hd (kk H locs ls hP hD hS hl)
theorem ca_gel (C : Cx0 own cc nL D ar (XC tg te mi) R j) (pc : Nat) {ws : va_W} (hd : decode cc pc = .ok (.arraylength, 1)) (kk : j ws k n (pc + 1) lv (.int 5 :: st)) : j ws k n pc lv (.ref tg :: st) := by
  obtain ⟨p, l, e, s, m, args, below, meth, c, A, Q, ⟨hx, hb, hml, hown, hts, hK, hA, hX, hXs⟩, rfl⟩ := C
  intro H locs ls hP hD hS hl
  exact va_tlen hx hb hXs.1.2.1 hS rfl hd (kk H locs ls hP hD hS hl)
theorem ca_gei (C : Cx0 own cc nL D ar (XC tg te mi) R j) (pc x : Nat) {i : Int32} {ws : va_W} (hi : i = nI x) (hlt : x < 5) (hd : decode cc pc = .ok (.iaload, 1)) (kk : j ws k n (pc + 1) lv (.int (geN x) :: st)) : j ws k n pc lv (.int i :: .ref tg :: st) := by
  obtain ⟨p, l, e, s, m, args, below, meth, c, A, Q, ⟨hx, hb, hml, hown, hts, hK, hA, hX, hXs⟩, rfl⟩ := C
  intro H locs ls hP hD hS hl
  obtain ⟨h8, h9⟩ := nI_vp hi hlt (by decide)
  exact va_ti hx hb hXs.1.2.1 hS h8 (by show Value.int (geN i.toNatClampNeg) = _; rw [h9]) hd (kk H locs ls hP hD hS hl)
theorem ca_em (C : Cx0 own cc nL D ar (XC tg te mi) R j) (pc : Nat) {ix : Nat} (hw : Cond.fieldLink own ix "java/util/ArrayList" "DEFAULTCAPACITY_EMPTY_ELEMENTDATA" "[Ljava/lang/Object;" ∈ gtbl) (hd : decode cc pc = .ok (.getstatic ix, 3)) {ws : va_W} (kk : j ws k n (pc + 3) lv (.ref te :: st)) : j ws k n pc lv st := by
  obtain ⟨p, l, e, s, m, args, below, meth, c, A, Q, ⟨hx, hb, hml, hown, hts, hK, hA, hX, hXs⟩, rfl⟩ := C
  intro H locs ls hP hD hS hl
  exact va_gets hx hb hXs.1.2.2.1 hS hown (hts _ hw) (fun _ h => h) hd (kk H locs ls hP hD hS hl)
theorem ca_eml (C : Cx0 own cc nL D ar (XC tg te mi) R j) (pc : Nat) {ws : va_W} (hd : decode cc pc = .ok (.arraylength, 1)) (kk : j ws k n (pc + 1) lv (.int 0 :: st)) : j ws k n pc lv (.ref te :: st) := by
  obtain ⟨p, l, e, s, m, args, below, meth, c, A, Q, ⟨hx, hb, hml, hown, hts, hK, hA, hX, hXs⟩, rfl⟩ := C
  intro H locs ls hP hD hS hl
  exact va_tlen hx hb hXs.1.2.2.2 hS rfl hd (kk H locs ls hP hD hS hl)
/-- the empty array isn't one of ours -/
theorem ca_teN (C : Cx0 own cc nL D ar (XC tg te mi) R j) {pc : Nat} (kk : te ∉ S.1 → j (cW ar S) k n pc lv st) : j (cW ar S) k n pc lv st := by
  obtain ⟨p, l, e, s, m, args, below, meth, c, A, Q, ⟨hx, hb, hml, hown, hts, hK, hA, hX, hXs⟩, rfl⟩ := C
  intro H locs ls hP hD hS hl
  refine kk (fun hm => ?_) H locs ls hP hD hS hl
  obtain ⟨q, hq⟩ := cW_get (ar := ar) hm rfl
  exact hXs.1.2.2.2.out (hD.2 q _ hq)
end CA

