/-! the class's constructor: its rows -/
/-- nothing yet -/
def eS : CS := ([], fun _ => 0, fun _ => 0, fun _ _ => 0, fun _ _ => none, fun _ => 0, fun _ _ => 0, fun _ _ => none)
def mnS (S : CS) (q : Nat) (r : Nat → Nat) : CS := (q :: (S.1 ++ (List.range 4).map r), fun x => if x = q then 11 else if x ∈ (List.range 4).map r then 7 else S.2.1 x, fun x => if x = q then 4 else if x ∈ (List.range 4).map r then 5 else S.2.2.1 x, S.2.2.2.1, S.2.2.2.2.1, S.2.2.2.2.2.1, fun x => if x ∈ (List.range 4).map r then (fun _ => 0) else S.2.2.2.2.2.2.1 x, fun x => if x = q then (fun i => if i < 4 then some (r i) else none) else S.2.2.2.2.2.2.2 x)
theorem cE_congr {ar : Nat → ClassId} {S S' : CS} {x : Nat} (h1 : S'.2.1 x = S.2.1 x) (h2 : S'.2.2.1 x = S.2.2.1 x) (h3 : ∀ f, S'.2.2.2.1 f x = S.2.2.2.1 f x) (h4 : ∀ f, S'.2.2.2.2.1 f x = S.2.2.2.2.1 f x) (h5 : S'.2.2.2.2.2.1 x = S.2.2.2.2.2.1 x) (h6 : S'.2.2.2.2.2.2.1 x = S.2.2.2.2.2.2.1 x) (h7 : S'.2.2.2.2.2.2.2 x = S.2.2.2.2.2.2.2 x) : cE ar S' x = cE ar S x := by
  unfold cE
  simp only [h1, h2, h3, h4, h5, h6, h7]
section C41
variable {own : String} {cc : ByteArray} {nL : Nat} {D : va_G} {ar : Nat → ClassId} {tg te mi : Nat} {X : XT} {R : Room} {j : jT}
variable {S : CS} {k n : Nat} {lv : List (Nat × Value)} {st : List Value}
theorem ca_newE (C : Cx0 own cc nL D ar (XC tg te mi) R j) (pc N' : Nat) {ix : Nat} {i : Int32} (hw : Cond.classLink own ix "EggHouse$Egg" ∈ gtbl) (hi : i = nI N') (hN : N' < 2 ^ 20) (hc : k + 1 ≤ R.cells) (hs : n + N' ≤ R.slots) (hd : decode cc pc = .ok (.anewarray ix, 3)) (kk : ∀ q, q ∉ S.1 → j (cW ar (nA S q 8 N')) (k + 1) (n + N') (pc + 3) lv (.ref q :: st)) : j (cW ar S) k n pc lv (.int i :: st) := by
  obtain ⟨p, l, e, s, m, args, below, meth, c, A, Q, ⟨hx, hb, hml, hown, hts, hK, hA, hX, hXs⟩, rfl⟩ := C
  intro H locs ls hP hD hS hl
  subst hi
  refine va_newq (C := "EggHouse$Egg") hx hb hown (hts _ hw) hXs.2.2.2.1 hK hP hD hS hA (nI_pos (by omega)) (nI_clamp (by omega)) (by omega) hc hs hd (fun q cA H1 hK1 hP1 hD1 hS1 => ?_)
  have hq := cW_fresh hD1
  have e1 : cA = ar 2 := by
    have r1 := (hK1.2 6 _ rfl).2
    have r2 := (hK.2 2 _ rfl).2
    obtain ⟨-, -, -, -, -, f1⟩ := r1
    obtain ⟨-, -, -, -, -, f2⟩ := r2
    exact Option.some.inj (f1.symm.trans f2)
  subst e1
  rw [cW_push (S' := nA S q 8 N') hq rfl ((cE_8 (va_up_self _ _ _)).trans (by simp [va_up_self])) (fun b hb => cE_oN hb)] at hP1 hD1
  exact kk q hq H1 locs ls hP1 hD1 hS1 hl
theorem ca_newP (C : Cx0 own cc nL D ar (XC tg te mi) R j) (pc N' : Nat) {ix : Nat} {i : Int32} (hw : Cond.classLink own ix "EggHouse$Packer" ∈ gtbl) (hi : i = nI N') (hN : N' < 2 ^ 20) (hc : k + 1 ≤ R.cells) (hs : n + N' ≤ R.slots) (hd : decode cc pc = .ok (.anewarray ix, 3)) (kk : ∀ q, q ∉ S.1 → j (cW ar (nA S q 9 N')) (k + 1) (n + N') (pc + 3) lv (.ref q :: st)) : j (cW ar S) k n pc lv (.int i :: st) := by
  obtain ⟨p, l, e, s, m, args, below, meth, c, A, Q, ⟨hx, hb, hml, hown, hts, hK, hA, hX, hXs⟩, rfl⟩ := C
  intro H locs ls hP hD hS hl
  subst hi
  refine va_newq (C := "EggHouse$Packer") hx hb hown (hts _ hw) hXs.2.2.2.2.1 hK hP hD hS hA (nI_pos (by omega)) (nI_clamp (by omega)) (by omega) hc hs hd (fun q cA H1 hK1 hP1 hD1 hS1 => ?_)
  have hq := cW_fresh hD1
  have e1 : cA = ar 3 := by
    have r1 := (hK1.2 6 _ rfl).2
    have r2 := (hK.2 3 _ rfl).2
    obtain ⟨-, -, -, -, -, f1⟩ := r1
    obtain ⟨-, -, -, -, -, f2⟩ := r2
    exact Option.some.inj (f1.symm.trans f2)
  subst e1
  rw [cW_push (S' := nA S q 9 N') hq rfl ((cE_9 (va_up_self _ _ _)).trans (by simp [va_up_self])) (fun b hb => cE_oN hb)] at hP1 hD1
  exact kk q hq H1 locs ls hP1 hD1 hS1 hl
theorem mn_rows {r : Nat → Nat} {x : Nat} : x ∈ (List.range 4).map r ↔ ∃ i, i < 4 ∧ r i = x := by
  rw [List.mem_map]
  constructor
  · rintro ⟨i, hi, e⟩; exact ⟨i, List.mem_range.mp hi, e⟩
  · rintro ⟨i, hi, e⟩; exact ⟨i, List.mem_range.mpr hi, e⟩
theorem ca_mna (C : Cx0 own cc nL D ar (XC tg te mi) R j) (pc : Nat) {ix : Nat} (hw : Cond.classLink own ix "[[I" ∈ gtbl) (hc : k + 5 ≤ R.cells) (hs : n + 24 ≤ R.slots) (hd : decode cc pc = .ok (.multianewarray ix 2, 4)) (kk : ∀ (q : Nat) (r : Nat → Nat), q ∉ S.1 → (∀ i k, i < 4 → k < 4 → r i = r k → i = k) → (∀ i, i < 4 → r i ∉ S.1 ∧ r i ≠ q) → j (cW ar (mnS S q r)) (k + 5) (n + 24) (pc + 4) lv (.ref q :: st)) : j (cW ar S) k n pc lv (.int 5 :: .int 4 :: st) := by
  obtain ⟨p, l, e, s, m, args, below, meth, c, A, Q, ⟨hx, hb, hml, hown, hts, hK, hA, hX, hXs⟩, rfl⟩ := C
  intro H locs ls hP hD hS hl
  have hw2 := hts _ hw
  have hcy : s.vm.findClass (FieldType.array FieldType.int).toString = some (ar 0) := (hK.2 0 _ rfl).2
  refine va_mna (X := []) (L := S.1) (f := cE ar S) (ty := .int) (cy := ar 0) (z := (5, .inl (fun _ => 0))) (n := 4) (k := 5) (N' := 4) (K' := 5) hx hb hown hw2 hXs.2.2.2.2.2.2.1 (hts _ ac_I) hcy hK hP hD hS hA (by decide) (by decide) rfl rfl (by decide) (by decide) (by decide) rfl rfl hc hs (fun c9 => arrV_new c9 5 (.int 0)) hd (fun q r cA H1 hinj hr hK1 hP1 hD1 hS1 => ?_)
  have e1 : cA = ar 5 := Option.some.inj (((hK1.2 6 _ rfl).2).symm.trans ((hK.2 5 _ rfl).2))
  subst e1
  have hqn : q ∉ S.1 ++ (List.range 4).map r := fun hm => by
    obtain ⟨k9, hk9⟩ := va_pl_get (X := []) (f := vr_up (cE ar S) ((List.range 4).map r) (.inl (ar 0, 5, .inl (fun _ => 0)))) hm
    have h1 := hD1.1 0 (k9 + 1) (q, .inl (ar 5, 4, .inr (.inr (.inr (.inr (fun i => if i < 4 then some (r i) else none)))))) (q, vr_up (cE ar S) ((List.range 4).map r) (.inl (ar 0, 5, .inl (fun _ => 0))) q) rfl (by
      show ((q, _) :: va_pl (S.1 ++ (List.range 4).map r) (vr_up (cE ar S) ((List.range 4).map r) (.inl (ar 0, 5, .inl (fun _ => 0)))))[k9 + 1]? = _
      rw [List.getElem?_cons_succ]; exact hk9) rfl
    omega
  have hq : q ∉ S.1 := fun z => hqn (List.mem_append_left _ z)
  have hrq : ∀ i, i < 4 → r i ∉ S.1 ∧ r i ≠ q := fun i hi => ⟨hr i hi, fun z => hqn (List.mem_append_right _ (mn_rows.mpr ⟨i, hi, z⟩))⟩
  have hW : ([] ++ [((q, .inl (ar 5, 4, .inr (.inr (.inr (.inr (fun i => if i < 4 then some (r i) else none)))))) : Nat × va_E)]) ++ va_pl (S.1 ++ (List.range 4).map r) (vr_up (cE ar S) ((List.range 4).map r) (.inl (ar 0, 5, .inl (fun _ => 0)))) = cW ar (mnS S q r) := by
    have hq1 : cE ar (mnS S q r) q = .inl (ar 5, 4, .inr (.inr (.inr (.inr (fun i => if i < 4 then some (r i) else none))))) := by
      rw [cE_11 (S := mnS S q r) (show (mnS S q r).2.1 q = 11 from if_pos rfl)]
      show Sum.inl (ar 5, (if q = q then 4 else _), _) = _
      rw [if_pos rfl]
      refine congrArg (fun f => Sum.inl (ar 5, 4, Sum.inr (Sum.inr (Sum.inr (Sum.inr f))))) ?_
      exact if_pos rfl
    show (q, _) :: va_pl (S.1 ++ (List.range 4).map r) _ = va_pl (q :: (S.1 ++ (List.range 4).map r)) (cE ar (mnS S q r))
    show _ = (q, cE ar (mnS S q r) q) :: va_pl (S.1 ++ (List.range 4).map r) (cE ar (mnS S q r))
    rw [hq1]
    refine congrArg (List.cons _) ?_
    unfold va_pl
    apply List.map_congr_left
    intro x hx9
    have hxq : x ≠ q := fun z => hqn (by rw [← z]; exact hx9)
    by_cases hm : x ∈ (List.range 4).map r
    · rw [vr_up_in hm, cE_7 (S := mnS S q r) (show (mnS S q r).2.1 x = 7 from (if_neg hxq).trans (if_pos hm))]
      refine congrArg (fun y => (x, y)) ?_
      show _ = Sum.inl (ar 0, (if x = q then 4 else if x ∈ (List.range 4).map r then 5 else S.2.2.1 x), Sum.inl (if x ∈ (List.range 4).map r then (fun _ => 0) else S.2.2.2.2.2.2.1 x))
      rw [if_neg hxq, if_pos hm, if_pos hm]
    · rw [vr_up_ne hm]
      refine congrArg (fun y => (x, y)) ?_
      exact (cE_congr (S := S) (S' := mnS S q r) ((if_neg hxq).trans (if_neg hm)) ((if_neg hxq).trans (if_neg hm)) (fun _ => rfl) (fun _ => rfl) rfl (if_neg hm) (if_neg hxq)).symm
  rw [hW] at hP1 hD1
  exact kk q r hq hinj hrq H1 locs ls hP1 hD1 hS1 hl
theorem gs {F : CS → Prop} {pc : Nat} (h : F S) (kk : ∀ S1, F S1 → j (cW ar S1) k n pc lv st) : j (cW ar S) k n pc lv st := kk S h
end C41

