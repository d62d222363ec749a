/-! the library's list, over the class's heap -/
def ncap (c : Nat) : Nat := if c = 0 then 10 else c + (if 1 < c / 2 then c / 2 else 1)
/-- a list at p: n elements f, its array e of cap places (te the shared empty one) -/
def LsA (te : Nat) (S : CS) (p n e cap : Nat) (f : Nat → Nat) : Prop :=
  Is S p 6 ∧ S.2.2.2.1 51 p = nI n ∧ S.2.2.2.2.1 8 p = some e ∧ (n ≤ cap ∧ cap ≤ 1000) ∧ ((e = te ∧ cap = 0) ∨ (Is S e 10 ∧ S.2.2.1 e = cap ∧ 0 < cap)) ∧ ∀ i, i < n → S.2.2.2.2.2.2.2 e i = some (f i) ∧ El S (f i)
theorem LsA.arr {te : Nat} {S : CS} {p n e cap : Nat} {f : Nat → Nat} (h : LsA te S p n e cap f) (hn : 0 < n) : Is S e 10 ∧ S.2.2.1 e = cap := by
  rcases h.2.2.2.2.1 with ⟨-, q⟩ | q
  · have := h.2.2.2.1.1; omega
  · exact ⟨q.1, q.2.1⟩
/-- behind add(x) -/
def AddP (te : Nat) (S S' : CS) (p n e cap x e' cap' : Nat) : Prop :=
  (∀ a, a ∈ S.1 → a ∈ S'.1 ∧ S'.2.1 a = S.2.1 a ∧ S'.2.2.1 a = S.2.2.1 a ∧ S'.2.2.2.2.2.2.1 a = S.2.2.2.2.2.2.1 a) ∧
  ((∀ f, f ≠ 50 → f ≠ 51 → S'.2.2.2.1 f = S.2.2.2.1 f) ∧ S'.2.2.2.1 51 = upd (S.2.2.2.1 51) p (nI (n + 1))) ∧
  ((∀ f, f ≠ 8 → S'.2.2.2.2.1 f = S.2.2.2.2.1 f) ∧ S'.2.2.2.2.1 8 = va_up (S.2.2.2.2.1 8) p (some e')) ∧ S'.2.2.2.2.2.1 = S.2.2.2.2.2.1 ∧
  (∀ a, a ∈ S.1 → a ≠ e → S'.2.2.2.2.2.2.2 a = S.2.2.2.2.2.2.2 a) ∧
  (Is S' e' 10 ∧ S'.2.2.1 e' = cap') ∧ ((e' = e ∧ cap' = cap ∧ n < cap) ∨ (e' ∉ S.1 ∧ n = cap ∧ cap' = ncap cap)) ∧
  (∀ i, i < n → S'.2.2.2.2.2.2.2 e' i = S.2.2.2.2.2.2.2 e i) ∧ S'.2.2.2.2.2.2.2 e' n = some x
/-- behind remove(0) -/
def RemP (S S' : CS) (p n e : Nat) : Prop :=
  S'.1 = S.1 ∧ S'.2.1 = S.2.1 ∧ S'.2.2.1 = S.2.2.1 ∧ ((∀ f, f ≠ 50 → f ≠ 51 → S'.2.2.2.1 f = S.2.2.2.1 f) ∧ S'.2.2.2.1 51 = upd (S.2.2.2.1 51) p (nI (n - 1))) ∧
  S'.2.2.2.2.1 = S.2.2.2.2.1 ∧ S'.2.2.2.2.2.1 = S.2.2.2.2.2.1 ∧ S'.2.2.2.2.2.2.1 = S.2.2.2.2.2.2.1 ∧ (∀ a, a ≠ e → S'.2.2.2.2.2.2.2 a = S.2.2.2.2.2.2.2 a) ∧ ∀ i, i < n - 1 → S'.2.2.2.2.2.2.2 e i = S.2.2.2.2.2.2.2 e (i + 1)

section C18
variable {D : va_G} {ar : Nat → ClassId} {tg te mi : Nat} {S : CS}
set_option maxRecDepth 100000 in
theorem k_J3_checkIndex_8e157 {X : XT} (hX : Xok X) (ws : va_W) {x m : Nat} (hx : x < m) (hm : m < 2 ^ 31)  : Cn D ar X yJ3_checkIndex_8e157 cJ3_checkIndex_8e157 3 (some .int) 0 0 0 0 [.int (nI x), .int (nI m), .null] ws (fun r w => r = some (.int (nI x)) ∧ w = ws) := by
  refine Cn.of (own := RJ3) hX (by decide) rfl (Nat.le_of_ble_eq_true rfl) (fun j C => ?_)
  have C0 := C.to
  show j _ 0 0 0 [(0, _), (1, _), (2, _)] []
  refine r_iload_n C0 0 0 dJ3_checkIndex_8e157_0 rfl rfl ?_
  refine r_if_lt C0 1 9 dJ3_checkIndex_8e157_1 (by decide) (fun c_1 => ?_) (fun c_1 => ?_)
  · exact absurd c_1 (nI_pos (by omega))
  · refine r_iload_n C0 4 0 dJ3_checkIndex_8e157_4 rfl rfl ?_
    refine r_iload_n C0 5 1 dJ3_checkIndex_8e157_5 rfl rfl ?_
    refine r_icmp_lt C0 6 16 dJ3_checkIndex_8e157_6 (by decide) (fun c_6 => ?_) (fun c_6 => ?_)
    · refine r_iload_n C0 16 0 dJ3_checkIndex_8e157_16 rfl rfl ?_
      refine r_iret C 17 dJ3_checkIndex_8e157_17 (Nat.le_refl _) (Nat.le_refl _) ?_
      exact ⟨rfl, rfl⟩
    · exact absurd (nI_lt hx hm) c_6
set_option maxRecDepth 100000 in
theorem k_J15_checkIndex_7cf53 {X : XT} (hX : Xok X) (ws : va_W) {x m : Nat} (hx : x < m) (hm : m < 2 ^ 31)  : Cn D ar X yJ15_checkIndex_7cf53 cJ15_checkIndex_7cf53 2 (some .int) 1 22 0 0 [.int (nI x), .int (nI m)] ws (fun r w => r = some (.int (nI x)) ∧ w = ws) := by
  refine Cn.of (own := RJ15) hX (by decide) rfl (Nat.le_of_ble_eq_true rfl) (fun j C => ?_)
  have C0 := C.to
  show j _ 0 0 0 [(0, _), (1, _)] []
  refine r_iload_n C0 0 0 dJ15_checkIndex_7cf53_0 rfl rfl ?_
  refine r_iload_n C0 1 1 dJ15_checkIndex_7cf53_1 rfl rfl ?_
  refine r_null C0 2 dJ15_checkIndex_7cf53_2 ?_
  refine s_call (As := [.int _, .int _, .null]) C0 3 3 (k_J3_checkIndex_8e157 hX ws hx hm) (rm_J3_checkIndex_8e157 (by decide) (by decide) (Nat.le_refl _) (Nat.le_refl _)) mlJ15_105 st_J3_checkIndex_8e157 rfl (Nat.le_of_ble_eq_true rfl) dJ15_checkIndex_7cf53_3 ?_
  rintro _ _ ⟨rfl, rfl⟩
  refine r_iret C 6 dJ15_checkIndex_7cf53_6 (Nat.le_refl _) (Nat.le_refl _) ?_
  exact ⟨rfl, rfl⟩
set_option maxRecDepth 100000 in
theorem k_Jx4a65c_size_8abf5 {X : XT} (hX : Xok X) {p : Nat} (hp : Is S p 6)  : Cn D ar X yJx4a65c_size_8abf5 cJx4a65c_size_8abf5 1 (some .int) 0 0 0 0 [.ref p] (cW ar S) (fun r w => r = some (.int (S.2.2.2.1 51 p)) ∧ w = cW ar S) := by
  refine Cn.of (own := RJx4a65c) hX (by decide) rfl (Nat.le_of_ble_eq_true rfl) (fun j C => ?_)
  have C0 := C.to
  show j _ 0 0 0 [(0, _)] []
  refine r_aload_n C0 0 0 dJx4a65c_size_8abf5_0 rfl rfl ?_
  refine cgI_51 C0 1 flJx4a65c_48 hp dJx4a65c_size_8abf5_1 ?_
  refine r_iret C 4 dJx4a65c_size_8abf5_4 (Nat.le_refl _) (Nat.le_refl _) ?_
  exact ⟨rfl, rfl⟩
set_option maxRecDepth 100000 in
theorem k_Jx4a65c_isEmpty_aae02 {X : XT} (hX : Xok X) {p : Nat} (hp : Is S p 6)  : Cn D ar X yJx4a65c_isEmpty_aae02 cJx4a65c_isEmpty_aae02 1 (some .boolean) 0 0 0 0 [.ref p] (cW ar S) (fun r w => r = some (.int (if S.2.2.2.1 51 p = 0 then 1 else 0)) ∧ w = cW ar S) := by
  refine Cn.of (own := RJx4a65c) hX (by decide) rfl (Nat.le_of_ble_eq_true rfl) (fun j C => ?_)
  have C0 := C.to
  show j _ 0 0 0 [(0, _)] []
  refine r_aload_n C0 0 0 dJx4a65c_isEmpty_aae02_0 rfl rfl ?_
  refine cgI_51 C0 1 flJx4a65c_48 hp dJx4a65c_isEmpty_aae02_1 ?_
  refine r_if_ne C0 4 11 dJx4a65c_isEmpty_aae02_4 (by decide) (fun c_4 => ?_) (fun c_4 => ?_)
  · refine r_iconst C0 11 0 dJx4a65c_isEmpty_aae02_11 (by decide) ?_
    refine r_zret C 12 rfl dJx4a65c_isEmpty_aae02_12 (Nat.le_refl _) (Nat.le_refl _) ?_
    exact ⟨by rw [if_neg c_4], rfl⟩
  · refine r_iconst C0 7 1 dJx4a65c_isEmpty_aae02_7 (by decide) ?_
    refine r_goto C0 8 12 dJx4a65c_isEmpty_aae02_8 (by decide) ?_
    refine r_zret C 12 rfl dJx4a65c_isEmpty_aae02_12 (Nat.le_refl _) (Nat.le_refl _) ?_
    exact ⟨by rw [if_pos c_4], rfl⟩
set_option maxRecDepth 100000 in
theorem k_Jx4a65c_elementData_915e3 {X : XT} (hX : Xok X) {p n e cap x : Nat} {f : Nat → Nat} (h : LsA te S p n e cap f) (hx : x < n)  : Cn D ar X yJx4a65c_elementData_915e3 cJx4a65c_elementData_915e3 2 (some (.object "java/lang/Object")) 0 0 0 0 [.ref p, .int (nI x)] (cW ar S) (fun r w => r = some (.ref (f x)) ∧ w = cW ar S) := by
  refine Cn.of (own := RJx4a65c) hX (by decide) rfl (Nat.le_of_ble_eq_true rfl) (fun j C => ?_)
  have C0 := C.to
  show j _ 0 0 0 [(0, _), (1, _)] []
  have he := h.arr (by omega)
  have hcap := h.2.2.2.1
  refine r_aload_n C0 0 0 dJx4a65c_elementData_915e3_0 rfl rfl ?_
  refine cgR_8 C0 1 h.2.2.1 flJx4a65c_9 h.1 dJx4a65c_elementData_915e3_1 ?_
  refine r_iload_n C0 4 1 dJx4a65c_elementData_915e3_4 rfl rfl ?_
  refine ca_ald C0 5 x (by decide) he.1 rfl (by rw [he.2]; omega) (by rw [he.2]; omega) (h.2.2.2.2.2 x hx).1 dJx4a65c_elementData_915e3_5 ?_
  refine r_aret C 6 (by first | exact Or.inl ⟨_, rfl⟩ | exact Or.inr ⟨_, rfl⟩) (by first | exact Or.inr ⟨_, rfl⟩ | exact Or.inl rfl) dJx4a65c_elementData_915e3_6 (Nat.le_refl _) (Nat.le_refl _) ?_
  exact ⟨rfl, rfl⟩
set_option maxRecDepth 100000 in
theorem k_Jx4a65c_get_915e3 {X : XT} (hX : Xok X) {p n e cap x : Nat} {f : Nat → Nat} (h : LsA te S p n e cap f) (hx : x < n)  : Cn D ar X yJx4a65c_get_915e3 cJx4a65c_get_915e3 2 (some (.object "java/lang/Object")) 2 43 0 0 [.ref p, .int (nI x)] (cW ar S) (fun r w => r = some (.ref (f x)) ∧ w = cW ar S) := by
  refine Cn.of (own := RJx4a65c) hX (by decide) rfl (Nat.le_of_ble_eq_true rfl) (fun j C => ?_)
  have C0 := C.to
  show j _ 0 0 0 [(0, _), (1, _)] []
  have hcap := h.2.2.2.1
  refine r_iload_n C0 0 1 dJx4a65c_get_915e3_0 rfl rfl ?_
  refine r_aload_n C0 1 0 dJx4a65c_get_915e3_1 rfl rfl ?_
  refine cgI_51 C0 2 flJx4a65c_48 h.1 dJx4a65c_get_915e3_2 ?_
  rw [h.2.1]
  refine s_call (As := [.int _, .int _]) C0 5 2 (k_J15_checkIndex_7cf53 hX _ hx (by omega)) (rm_J15_checkIndex_7cf53 (by decide) (by decide) (Nat.le_refl _) (Nat.le_refl _)) mlJx4a65c_118 st_J15_checkIndex_7cf53 rfl (Nat.le_of_ble_eq_true rfl) dJx4a65c_get_915e3_5 ?_
  rintro _ _ ⟨rfl, rfl⟩
  refine r_pop C0 8 dJx4a65c_get_915e3_8 rfl ?_
  refine r_aload_n C0 9 0 dJx4a65c_get_915e3_9 rfl rfl ?_
  refine r_iload_n C0 10 1 dJx4a65c_get_915e3_10 rfl rfl ?_
  refine c_call (As := [.int _]) C0 11 1 (k_Jx4a65c_elementData_915e3 hX h hx) (rm_Jx4a65c_elementData_915e3 (by decide) (by decide) (Nat.le_refl _) (Nat.le_refl _)) mlJx4a65c_123 im_Jx4a65c_elementData_915e3 se_Jx4a65c_elementData_915e3 (by decide) rfl h.1 rfl (Nat.le_of_ble_eq_true rfl) dJx4a65c_get_915e3_11 ?_
  rintro _ _ ⟨rfl, rfl⟩
  refine r_aret C 14 (by first | exact Or.inl ⟨_, rfl⟩ | exact Or.inr ⟨_, rfl⟩) (by first | exact Or.inr ⟨_, rfl⟩ | exact Or.inl rfl) dJx4a65c_get_915e3_14 (Nat.le_refl _) (Nat.le_refl _) ?_
  exact ⟨rfl, rfl⟩
set_option maxRecDepth 100000 in
theorem k_J8_newLength_cabcc {X : XT} (hX : Xok X) (ws : va_W) {c : Nat} (h0 : 0 < c) (hc : c ≤ 1000)  : Cn D ar X yJ8_newLength_cabcc cJ8_newLength_cabcc 4 (some .int) 1 14 0 0 [.int (nI c), .int 1, .int (nI (c / 2))] ws (fun r w => r = some (.int (nI (ncap c))) ∧ w = ws) := by
  refine Cn.of (own := RJ8) hX (by decide) rfl (Nat.le_of_ble_eq_true rfl) (fun j C => ?_)
  have C0 := C.to
  show j _ 0 0 0 [(0, _), (1, _), (2, _)] []
  have hnc : ncap c = c + (if 1 < c / 2 then c / 2 else 1) := if_neg (by omega)
  have hmx : (if (1 : Int32) < nI (c / 2) then nI (c / 2) else 1) = nI (if 1 < c / 2 then c / 2 else 1) := by
    by_cases q : 1 < c / 2
    · rw [if_pos q, if_pos (show (1 : Int32) < nI (c / 2) from (nI_ltI (a := 1) (by omega) (by omega)).mpr q)]
    · rw [if_neg q, if_neg (show ¬ (1 : Int32) < nI (c / 2) from fun z => q ((nI_ltI (a := 1) (by omega) (by omega)).mp z))]; rfl
  have hle : ncap c ≤ 2000 := by rw [hnc]; split <;> omega
  have hpos : 0 < ncap c := by rw [hnc]; omega
  refine r_iload_n C0 0 0 dJ8_newLength_cabcc_0 rfl rfl ?_
  refine r_iload_n C0 1 1 dJ8_newLength_cabcc_1 rfl rfl ?_
  refine r_iload_n C0 2 2 dJ8_newLength_cabcc_2 rfl rfl ?_
  refine r_mmax C0 3 mlJ8_194 (by decide) (Nat.le_of_ble_eq_true rfl) (Nat.zero_le _) (Nat.zero_le _) dJ8_newLength_cabcc_3 ?_
  refine r_iadd C0 6 dJ8_newLength_cabcc_6 ?_
  rw [hmx, nI_add, ← hnc]
  refine r_istore_n (lv' := [(0, _), (1, _), (2, _), (3, _)]) C0 7 3 dJ8_newLength_cabcc_7 rfl rfl (by decide) rfl ?_
  refine r_iconst C0 8 0 dJ8_newLength_cabcc_8 (by decide) ?_
  refine r_iload_n C0 9 3 dJ8_newLength_cabcc_9 rfl rfl ?_
  refine r_icmp_ge C0 10 21 dJ8_newLength_cabcc_10 (by decide) (fun c_10 => ?_) (fun c_10 => ?_)
  · exact absurd c_10 (nI_nle (n := ncap c) hpos (by omega))
  · refine r_iload_n C0 13 3 dJ8_newLength_cabcc_13 rfl rfl ?_
    refine r_ldc C0 14 ldJ8_200 dJ8_newLength_cabcc_14 ?_
    refine r_icmp_gt C0 16 21 dJ8_newLength_cabcc_16 (by decide) (fun c_16 => ?_) (fun c_16 => ?_)
    · exact absurd c_16 (Int32.not_lt.mpr (by have := nI_le (a := ncap c) (b := 2147483639) (by omega) (by decide); exact this))
    · refine r_iload_n C0 19 3 dJ8_newLength_cabcc_19 rfl rfl ?_
      refine r_iret C 20 dJ8_newLength_cabcc_20 (Nat.le_refl _) (Nat.le_refl _) ?_
      exact ⟨rfl, rfl⟩
/-- a longer copy of the array e at a new address q -/
def GrP (S : CS) (e c m q : Nat) : CS := (S.1 ++ [q], va_up S.2.1 q 10, va_up S.2.2.1 q m, S.2.2.2.1, S.2.2.2.2.1, S.2.2.2.2.2.1, va_up S.2.2.2.2.2.2.1 q (fun _ => 0), va_up S.2.2.2.2.2.2.2 q (fun i => if i < c then S.2.2.2.2.2.2.2 e i else none))
set_option maxRecDepth 100000 in
theorem k_J7_copyOf_6403c {e c m : Nat} (he : Is S e 10) (hNe : S.2.2.1 e = c) (hcm : c ≤ m) (hm : m ≤ 2000) (hel : ∀ i, i < c → ∀ y, S.2.2.2.2.2.2.2 e i = some y → El S y)  : Cn D ar (XC tg te mi) yJ7_copyOf_6403c cJ7_copyOf_6403c 4 (some (.array (.object "java/lang/Object"))) 1 50 1 m [.ref e, .int (nI m), .ref mi] (cW ar S) (fun r w => ∃ q, q ∉ S.1 ∧ r = some (.ref q) ∧ w = cW ar (GrP S e c m q)) := by
  refine Cn.of (own := RJ7) XC_ok (by decide) rfl (Nat.le_of_ble_eq_true rfl) (fun j C => ?_)
  have C0 := C.to
  show j _ 0 0 0 [(0, _), (1, _), (2, _)] []
  refine r_aload_n C0 0 2 dJ7_copyOf_6403c_0 rfl rfl ?_
  refine ca_ldcM C0 1 clJ7_110 dJ7_copyOf_6403c_1 ?_
  refine r_acmp_ne C0 3 13 dJ7_copyOf_6403c_3 (by decide) (fun c_3 => absurd rfl c_3) (fun _ => ?_)
  refine r_iload_n C0 6 1 dJ7_copyOf_6403c_6 rfl rfl ?_
  refine ca_newO C0 7 m clJ7_2 rfl (by omega) (Nat.le_refl _) (by show 0 + m ≤ m; omega) dJ7_copyOf_6403c_7 (fun q hq => ?_)
  refine r_goto C0 10 24 dJ7_copyOf_6403c_10 (by decide) ?_
  refine r_astore_n (lv' := [(0, _), (1, _), (2, _), (3, _)]) C0 24 3 dJ7_copyOf_6403c_24 rfl rfl (by decide) rfl ?_
  refine r_aload_n C0 25 0 dJ7_copyOf_6403c_25 rfl rfl ?_
  refine r_iconst C0 26 0 dJ7_copyOf_6403c_26 (by decide) ?_
  refine r_aload_n C0 27 3 dJ7_copyOf_6403c_27 rfl rfl ?_
  refine r_iconst C0 28 0 dJ7_copyOf_6403c_28 (by decide) ?_
  refine r_aload_n C0 29 0 dJ7_copyOf_6403c_29 rfl rfl ?_
  have hne := he.ne hq
  have hN1 : (nA S q 10 m).2.2.1 e = c := (va_up_ne _ _ hne).trans hNe
  have hN2 : (nA S q 10 m).2.2.1 q = m := va_up_self _ _ _
  have hB1 : (nA S q 10 m).2.2.2.2.2.2.2 e = S.2.2.2.2.2.2.2 e := va_up_ne _ _ hne
  have hel2 : ∀ i, i < c → ∀ y, (nA S q 10 m).2.2.2.2.2.2.2 e (0 + i) = some y → El (nA S q 10 m) y := fun i hi y hy => by
    rw [hB1, Nat.zero_add] at hy
    rcases hel i hi y hy with z | z | z
    · exact Or.inl (z.oldA hq)
    · exact Or.inr (Or.inl (z.oldA hq))
    · exact Or.inr (Or.inr (z.oldA hq))
  refine ca_len C0 30 (by decide) (he.oldA hq) dJ7_copyOf_6403c_30 ?_
  rw [hN1]
  refine r_iload_n C0 31 1 dJ7_copyOf_6403c_31 rfl rfl ?_
  refine r_mmin C0 32 mlJ7_304 (Nat.le_of_ble_eq_true rfl) (Nat.le_of_ble_eq_true rfl) (Nat.le_refl _) (by show 0 + m ≤ m; omega) dJ7_copyOf_6403c_32 ?_
  rw [show (if nI m < nI c then nI m else nI c) = nI c by rw [if_neg (nI_nlt hcm (by omega))]]
  refine ca_copy (S := nA S q 10 m) C0 35 0 0 c mlJ7_150 (he.oldA hq) Is.newA rfl rfl rfl (by rw [hN1]; omega) (by rw [hN2]; omega) (by rw [hN1]; omega) (by rw [hN2]; omega) hel2 (Nat.le_of_ble_eq_true rfl) (Nat.le_of_ble_eq_true rfl) dJ7_copyOf_6403c_35 ?_
  refine r_aload_n C0 38 3 dJ7_copyOf_6403c_38 rfl rfl ?_
  refine r_aret C 39 (by first | exact Or.inl ⟨_, rfl⟩ | exact Or.inr ⟨_, rfl⟩) (by first | exact Or.inr ⟨_, rfl⟩ | exact Or.inl rfl) dJ7_copyOf_6403c_39 (Nat.le_refl _) (by show 0 + m ≤ m; omega) ?_
  refine ⟨q, hq, rfl, ?_⟩
  rw [hB1]
  refine congrArg (cW ar) ?_
  unfold GrP
  refine congrArg _ (congrArg _ (congrArg _ (congrArg _ (congrArg _ (congrArg _ (congrArg _ ?_))))))
  rw [bx_uu]
  refine congrArg (va_up _ q) (funext fun i => ?_)
  show va_cpy (S.2.2.2.2.2.2.2 e) (va_up S.2.2.2.2.2.2.2 q (fun _ => none) q) 0 0 c i = _
  unfold va_cpy
  by_cases hi : i < c
  · rw [if_pos (by omega), if_pos hi]
    simp
  · rw [if_neg (by omega), if_neg hi, va_up_self]
end C18
