/-! the library's list: growing, add, remove, a new one -/
section C19
variable {D : va_G} {ar : Nat → ClassId} {tg te mi : Nat} {S : CS}
theorem ncap_le {c : Nat} (h : c ≤ 1000) : c < ncap c ∧ ncap c ≤ 2000 := by
  unfold ncap
  split
  · omega
  · split <;> omega
theorem GrP_is {S : CS} {e c m q a kd : Nat} (h : Is S a kd) (hq : q ∉ S.1) : Is (GrP S e c m q) a kd := ⟨List.mem_append_left _ h.1, (va_up_ne _ _ (h.ne hq)).trans h.2⟩
theorem GrP_new {S : CS} {e c m q : Nat} : Is (GrP S e c m q) q 10 := ⟨List.mem_append_right _ (List.mem_singleton.mpr rfl), va_up_self _ _ _⟩
theorem El.old {S S' : CS} {x : Nat} (h : El S x) (hs : ∀ a kd, Is S a kd → Is S' a kd) : El S' x := by
  rcases h with z | z | z
  · exact Or.inl (hs _ _ z)
  · exact Or.inr (Or.inl (hs _ _ z))
  · exact Or.inr (Or.inr (hs _ _ z))
set_option maxRecDepth 100000 in
theorem k_J7_copyOf_1904c {e c m : Nat} (he : Is S e 10) (hNe : S.2.2.1 e = c) (hcm : c ≤ m) (hm : m ≤ 2000) (hel : ∀ i, i < c → ∀ y, S.2.2.2.2.2.2.2 e i = some y → El S y)  : Cn D ar (XC tg te mi) yJ7_copyOf_1904c cJ7_copyOf_1904c 2 (some (.array (.object "java/lang/Object"))) 2 73 1 m [.ref e, .int (nI m)] (cW ar S) (fun r w => ∃ q, q ∉ S.1 ∧ r = some (.ref q) ∧ w = cW ar (GrP S e c m q)) := by
  refine Cn.of (own := RJ7) XC_ok (by decide) rfl (Nat.le_of_ble_eq_true rfl) (fun j C => ?_)
  have C0 := C.to
  show j _ 0 0 0 [(0, _), (1, _)] []
  refine r_aload_n C0 0 0 dJ7_copyOf_1904c_0 rfl rfl ?_
  refine r_iload_n C0 1 1 dJ7_copyOf_1904c_1 rfl rfl ?_
  refine r_aload_n C0 2 0 dJ7_copyOf_1904c_2 rfl rfl ?_
  refine ca_getC C0 3 mlJ7_86 he (Nat.le_of_ble_eq_true rfl) (Nat.le_of_ble_eq_true rfl) dJ7_copyOf_1904c_3 ?_
  refine s_call (As := [.ref _, .int _, .ref _]) C0 6 3 (k_J7_copyOf_6403c he hNe hcm hm hel) (rm_J7_copyOf_6403c (Nat.le_of_ble_eq_true rfl) (Nat.le_of_ble_eq_true rfl) (Nat.le_refl _) (by show 0 + m ≤ m; omega)) mlJ7_300 st_J7_copyOf_6403c rfl (Nat.le_of_ble_eq_true rfl) dJ7_copyOf_1904c_6 ?_
  rintro _ _ ⟨q, hq, rfl, rfl⟩
  refine r_aret C 9 (by first | exact Or.inl ⟨_, rfl⟩ | exact Or.inr ⟨_, rfl⟩) (by first | exact Or.inr ⟨_, rfl⟩ | exact Or.inl rfl) dJ7_copyOf_1904c_9 (Nat.le_refl _) (by show 0 + m ≤ m; omega) ?_
  exact ⟨q, hq, rfl, rfl⟩
set_option maxRecDepth 100000 in
theorem k_Jx4a65c_grow_92f84 {p e cap : Nat} {f : Nat → Nat} (h : LsA te S p cap e cap f)  : Cn D ar (XC tg te mi) yJx4a65c_grow_92f84 cJx4a65c_grow_92f84 4 (some (.array (.object "java/lang/Object"))) 3 94 1 (ncap cap) [.ref p, .int (nI (cap + 1))] (cW ar S) (fun r w => ∃ q, q ∉ S.1 ∧ r = some (.ref q) ∧ w = cW ar (uR (GrP S e cap (ncap cap) q) 8 p (some q))) := by
  refine Cn.of (own := RJx4a65c) XC_ok (by decide) rfl (Nat.le_of_ble_eq_true rfl) (fun j C => ?_)
  have C0 := C.to
  show j _ 0 0 0 [(0, _), (1, _)] []
  have hcap := h.2.2.2.1
  have hnc := ncap_le hcap.2
  rcases h.2.2.2.2.1 with ⟨rfl, rfl⟩ | ⟨he, hNe, h0⟩
  · refine r_aload_n C0 0 0 dJx4a65c_grow_92f84_0 rfl rfl ?_
    refine cgR_8 C0 1 h.2.2.1 flJx4a65c_9 h.1 dJx4a65c_grow_92f84_1 ?_
    refine ca_eml C0 4 dJx4a65c_grow_92f84_4 ?_
    refine r_istore_n (lv' := [(0, _), (1, _), (2, _)]) C0 5 2 dJx4a65c_grow_92f84_5 rfl rfl (by decide) rfl ?_
    refine r_iload_n C0 6 2 dJx4a65c_grow_92f84_6 rfl rfl ?_
    refine r_if_gt C0 7 20 dJx4a65c_grow_92f84_7 (by decide) (fun c_7 => ?_) (fun c_7 => ?_)
    · exact absurd c_7 (by decide)
    · refine r_aload_n C0 10 0 dJx4a65c_grow_92f84_10 rfl rfl ?_
      refine cgR_8 C0 11 h.2.2.1 flJx4a65c_9 h.1 dJx4a65c_grow_92f84_11 ?_
      refine ca_em C0 14 flJx4a65c_39 dJx4a65c_grow_92f84_14 ?_
      refine r_acmp_eq C0 17 45 dJx4a65c_grow_92f84_17 (by decide) (fun _ => ?_) (fun c_17 => absurd rfl c_17)
      refine r_aload_n C0 45 0 dJx4a65c_grow_92f84_45 rfl rfl ?_
      refine r_bipush C0 46 10 dJx4a65c_grow_92f84_46 (by decide) ?_
      refine r_iload_n C0 48 1 dJx4a65c_grow_92f84_48 rfl rfl ?_
      refine r_mmax C0 49 mlJx4a65c_79 (Nat.le_of_ble_eq_true rfl) (Nat.le_of_ble_eq_true rfl) (Nat.le_of_ble_eq_true rfl) (Nat.le_of_ble_eq_true rfl) dJx4a65c_grow_92f84_49 ?_
      rw [show (if (10 : Int32) < nI (0 + 1) then nI (0 + 1) else 10) = nI 10 by decide]
      refine ca_newO C0 52 10 clJx4a65c_7 rfl (by omega) (Nat.le_refl _) (Nat.le_of_ble_eq_true rfl) dJx4a65c_grow_92f84_52 (fun q hq => ?_)
      refine r_dup_x1 C0 55 dJx4a65c_grow_92f84_55 rfl rfl ?_
      refine cpR_8 C0 56 flJx4a65c_9 (h.1.oldA hq) dJx4a65c_grow_92f84_56 ?_
      refine r_aret C 59 (by first | exact Or.inl ⟨_, rfl⟩ | exact Or.inr ⟨_, rfl⟩) (by first | exact Or.inr ⟨_, rfl⟩ | exact Or.inl rfl) dJx4a65c_grow_92f84_59 (Nat.le_refl _) (Nat.le_of_ble_eq_true rfl) ?_
      refine ⟨q, hq, rfl, ?_⟩
      refine congrArg (cW ar) ?_
      unfold GrP
      simp
      rfl
  · refine r_aload_n C0 0 0 dJx4a65c_grow_92f84_0 rfl rfl ?_
    refine cgR_8 C0 1 h.2.2.1 flJx4a65c_9 h.1 dJx4a65c_grow_92f84_1 ?_
    refine ca_len C0 4 (by decide) he dJx4a65c_grow_92f84_4 ?_
    rw [hNe]
    refine r_istore_n (lv' := [(0, _), (1, _), (2, _)]) C0 5 2 dJx4a65c_grow_92f84_5 rfl rfl (by decide) rfl ?_
    refine r_iload_n C0 6 2 dJx4a65c_grow_92f84_6 rfl rfl ?_
    refine r_if_gt C0 7 20 dJx4a65c_grow_92f84_7 (by decide) (fun c_7 => ?_) (fun c_7 => ?_)
    · refine r_iload_n C0 20 2 dJx4a65c_grow_92f84_20 rfl rfl ?_
      refine r_iload_n C0 21 1 dJx4a65c_grow_92f84_21 rfl rfl ?_
      refine r_iload_n C0 22 2 dJx4a65c_grow_92f84_22 rfl rfl ?_
      refine r_isub C0 23 dJx4a65c_grow_92f84_23 ?_
      rw [show nI (cap + 1) - nI cap = 1 by rw [pk_sub (by omega), show cap + 1 - cap = 1 by omega]; rfl]
      refine r_iload_n C0 24 2 dJx4a65c_grow_92f84_24 rfl rfl ?_
      refine r_iconst C0 25 1 dJx4a65c_grow_92f84_25 (by decide) ?_
      refine r_ishr C0 26 dJx4a65c_grow_92f84_26 ?_
      rw [pk_shrN (n := cap) (by omega) ((1 : Int32) &&& 31) 1 (by decide), show cap / 2 ^ 1 = cap / 2 by simp]
      refine s_call (As := [.int _, .int _, .int _]) C0 27 3 (k_J8_newLength_cabcc XC_ok _ h0 hcap.2) (rm_J8_newLength_cabcc (Nat.le_of_ble_eq_true rfl) (Nat.le_of_ble_eq_true rfl) (Nat.zero_le _) (Nat.zero_le _)) mlJx4a65c_73 st_J8_newLength_cabcc rfl (Nat.le_of_ble_eq_true rfl) dJx4a65c_grow_92f84_27 ?_
      rintro _ _ ⟨rfl, rfl⟩
      refine r_istore_n (lv' := [(0, _), (1, _), (2, _), (3, _)]) C0 30 3 dJx4a65c_grow_92f84_30 rfl rfl (by decide) rfl ?_
      refine r_aload_n C0 31 0 dJx4a65c_grow_92f84_31 rfl rfl ?_
      refine r_aload_n C0 32 0 dJx4a65c_grow_92f84_32 rfl rfl ?_
      refine cgR_8 C0 33 h.2.2.1 flJx4a65c_9 h.1 dJx4a65c_grow_92f84_33 ?_
      refine r_iload_n C0 36 3 dJx4a65c_grow_92f84_36 rfl rfl ?_
      refine s_call (As := [.ref _, .int _]) C0 37 2 (k_J7_copyOf_1904c he hNe (Nat.le_of_lt hnc.1) hnc.2 (fun i hi y hy => by have := h.2.2.2.2.2 i hi; rw [this.1] at hy; cases hy; exact this.2)) (rm_J7_copyOf_1904c (Nat.le_of_ble_eq_true rfl) (Nat.le_of_ble_eq_true rfl) (Nat.le_refl _) (by show 0 + 0 + ncap cap ≤ ncap cap; omega)) mlJx4a65c_66 st_J7_copyOf_1904c rfl (Nat.le_of_ble_eq_true rfl) dJx4a65c_grow_92f84_37 ?_
      rintro _ _ ⟨q, hq, rfl, rfl⟩
      refine r_dup_x1 C0 40 dJx4a65c_grow_92f84_40 rfl rfl ?_
      refine cpR_8 C0 41 flJx4a65c_9 (GrP_is h.1 hq) dJx4a65c_grow_92f84_41 ?_
      refine r_aret C 44 (by first | exact Or.inl ⟨_, rfl⟩ | exact Or.inr ⟨_, rfl⟩) (by first | exact Or.inr ⟨_, rfl⟩ | exact Or.inl rfl) dJx4a65c_grow_92f84_44 (Nat.le_refl _) (by show 0 + 0 + ncap cap ≤ ncap cap; omega) ?_
      exact ⟨q, hq, rfl, rfl⟩
    · exact absurd ((nI_ltI (a := 0) (by omega) (by omega)).mpr h0) c_7
set_option maxRecDepth 100000 in
theorem k_Jx4a65c_grow_d5877 {p e cap : Nat} {f : Nat → Nat} (h : LsA te S p cap e cap f)  : Cn D ar (XC tg te mi) yJx4a65c_grow_d5877 cJx4a65c_grow_d5877 1 (some (.array (.object "java/lang/Object"))) 4 117 1 (ncap cap) [.ref p] (cW ar S) (fun r w => ∃ q, q ∉ S.1 ∧ r = some (.ref q) ∧ w = cW ar (uR (GrP S e cap (ncap cap) q) 8 p (some q))) := by
  refine Cn.of (own := RJx4a65c) XC_ok (by decide) rfl (Nat.le_of_ble_eq_true rfl) (fun j C => ?_)
  have C0 := C.to
  show j _ 0 0 0 [(0, _)] []
  refine r_aload_n C0 0 0 dJx4a65c_grow_d5877_0 rfl rfl ?_
  refine r_aload_n C0 1 0 dJx4a65c_grow_d5877_1 rfl rfl ?_
  refine cgI_51 C0 2 flJx4a65c_48 h.1 dJx4a65c_grow_d5877_2 ?_
  refine r_iconst C0 5 1 dJx4a65c_grow_d5877_5 (by decide) ?_
  refine r_iadd C0 6 dJx4a65c_grow_d5877_6 ?_
  rw [h.2.1, nI_1]
  refine c_call (As := [.int _]) C0 7 1 (k_Jx4a65c_grow_92f84 h) (rm_Jx4a65c_grow_92f84 (Nat.le_of_ble_eq_true rfl) (Nat.le_of_ble_eq_true rfl) (Nat.le_refl _) (by show 0 + ncap cap ≤ ncap cap; omega)) mlJx4a65c_69 im_Jx4a65c_grow_92f84 se_Jx4a65c_grow_92f84 (by decide) rfl h.1 rfl (Nat.le_of_ble_eq_true rfl) dJx4a65c_grow_d5877_7 ?_
  rintro _ _ ⟨q, hq, rfl, rfl⟩
  refine r_aret C 10 (by first | exact Or.inl ⟨_, rfl⟩ | exact Or.inr ⟨_, rfl⟩) (by first | exact Or.inr ⟨_, rfl⟩ | exact Or.inl rfl) dJx4a65c_grow_d5877_10 (Nat.le_refl _) (by show 0 + ncap cap ≤ ncap cap; omega) ?_
  exact ⟨q, hq, rfl, rfl⟩
set_option maxRecDepth 100000 in
theorem k_add3R {p n e cap x : Nat} {f : Nat → Nat} (h : LsA te S p n e cap f) (hlt : n < cap) (hx : El S x)  : Cn D ar (XC tg te mi) yJx4a65c_add_72be8 cJx4a65c_add_72be8 4 none 5 137 0 0 [.ref p, .ref x, .ref e, .int (nI n)] (cW ar S) (fun r w => r = none ∧ w = cW ar (uI (uB S e (va_up (S.2.2.2.2.2.2.2 e) n (some x))) 51 p (nI (n + 1)))) := by
  refine Cn.of (own := RJx4a65c) XC_ok (by decide) rfl (Nat.le_of_ble_eq_true rfl) (fun j C => ?_)
  have C0 := C.to
  show j _ 0 0 0 [(0, _), (1, _), (2, _), (3, _)] []
  have hcap := h.2.2.2.1
  have he : Is S e 10 ∧ S.2.2.1 e = cap := by
    rcases h.2.2.2.2.1 with ⟨-, q⟩ | q
    · omega
    · exact ⟨q.1, q.2.1⟩
  refine r_iload_n C0 0 3 dJx4a65c_add_72be8_0 rfl rfl ?_
  refine r_aload_n C0 1 2 dJx4a65c_add_72be8_1 rfl rfl ?_
  refine ca_len C0 2 (by decide) he.1 dJx4a65c_add_72be8_2 ?_
  rw [he.2]
  refine r_icmp_ne C0 3 11 dJx4a65c_add_72be8_3 (by decide) (fun c_3 => ?_) (fun c_3 => ?_)
  · refine r_aload_n C0 11 2 dJx4a65c_add_72be8_11 rfl rfl ?_
    refine r_iload_n C0 12 3 dJx4a65c_add_72be8_12 rfl rfl ?_
    refine r_aload_n C0 13 1 dJx4a65c_add_72be8_13 rfl rfl ?_
    refine ca_astO C0 14 n he.1 hx rfl (by rw [he.2]; omega) (by rw [he.2]; omega) dJx4a65c_add_72be8_14 ?_
    refine r_aload_n C0 15 0 dJx4a65c_add_72be8_15 rfl rfl ?_
    refine r_iload_n C0 16 3 dJx4a65c_add_72be8_16 rfl rfl ?_
    refine r_iconst C0 17 1 dJx4a65c_add_72be8_17 (by decide) ?_
    refine r_iadd C0 18 dJx4a65c_add_72be8_18 ?_
    rw [nI_1]
    refine cpI_51 C0 19 flJx4a65c_48 h.1 dJx4a65c_add_72be8_19 ?_
    refine r_vret C 22 dJx4a65c_add_72be8_22 (Nat.le_refl _) (Nat.le_refl _) ?_
    exact ⟨rfl, rfl⟩
  · exact absurd ((nI_eq (by omega) (by omega)).mp c_3) (by omega)
set_option maxRecDepth 100000 in
theorem k_add3F {p e cap x : Nat} {f : Nat → Nat} (h : LsA te S p cap e cap f) (hx : El S x)  : Cn D ar (XC tg te mi) yJx4a65c_add_72be8 cJx4a65c_add_72be8 4 none 5 137 1 (ncap cap) [.ref p, .ref x, .ref e, .int (nI cap)] (cW ar S) (fun r w => ∃ q, q ∉ S.1 ∧ r = none ∧ w = cW ar (uI (uB (uR (GrP S e cap (ncap cap) q) 8 p (some q)) q (va_up ((GrP S e cap (ncap cap) q).2.2.2.2.2.2.2 q) cap (some x))) 51 p (nI (cap + 1)))) := by
  refine Cn.of (own := RJx4a65c) XC_ok (by decide) rfl (Nat.le_of_ble_eq_true rfl) (fun j C => ?_)
  have C0 := C.to
  show j _ 0 0 0 [(0, _), (1, _), (2, _), (3, _)] []
  have hcap := h.2.2.2.1
  have hnc := ncap_le hcap.2
  have key : ∀ l2 : List (Nat × Value), l2 = [(0, .ref p), (1, .ref x), (2, .ref e), (3, .int (nI cap))] → j (cW ar S) 0 0 6 l2 [] := by
    intro l2 hl2
    subst hl2
    refine r_aload_n C0 6 0 dJx4a65c_add_72be8_6 rfl rfl ?_
    refine c_call (As := []) C0 7 0 (k_Jx4a65c_grow_d5877 h) (rm_Jx4a65c_grow_d5877 (Nat.le_of_ble_eq_true rfl) (Nat.le_of_ble_eq_true rfl) (Nat.le_refl _) (by show 0 + ncap cap ≤ ncap cap; omega)) mlJx4a65c_129 im_Jx4a65c_grow_d5877 se_Jx4a65c_grow_d5877 (by decide) rfl h.1 rfl (Nat.le_of_ble_eq_true rfl) dJx4a65c_add_72be8_7 ?_
    rintro _ _ ⟨q, hq, rfl, rfl⟩
    have hNq : (GrP S e cap (ncap cap) q).2.2.1 q = ncap cap := va_up_self _ _ _
    have hx2 : El (GrP S e cap (ncap cap) q) x := hx.old (fun a kd z => GrP_is z hq)
    refine r_astore_n (lv' := [(0, _), (1, _), (2, _), (3, _)]) C0 10 2 dJx4a65c_add_72be8_10 rfl rfl (by decide) rfl ?_
    refine r_aload_n C0 11 2 dJx4a65c_add_72be8_11 rfl rfl ?_
    refine r_iload_n C0 12 3 dJx4a65c_add_72be8_12 rfl rfl ?_
    refine r_aload_n C0 13 1 dJx4a65c_add_72be8_13 rfl rfl ?_
    refine ca_astO C0 14 cap (GrP_new (S := S) (e := e) (c := cap) (m := ncap cap)) hx2 rfl (by show cap < (GrP S e cap (ncap cap) q).2.2.1 q; rw [hNq]; omega) (by show (GrP S e cap (ncap cap) q).2.2.1 q < _; rw [hNq]; omega) dJx4a65c_add_72be8_14 ?_
    refine r_aload_n C0 15 0 dJx4a65c_add_72be8_15 rfl rfl ?_
    refine r_iload_n C0 16 3 dJx4a65c_add_72be8_16 rfl rfl ?_
    refine r_iconst C0 17 1 dJx4a65c_add_72be8_17 (by decide) ?_
    refine r_iadd C0 18 dJx4a65c_add_72be8_18 ?_
    rw [nI_1]
    refine cpI_51 C0 19 flJx4a65c_48 (GrP_is (S := S) (e := e) (c := cap) (m := ncap cap) h.1 hq) dJx4a65c_add_72be8_19 ?_
    refine r_vret C 22 dJx4a65c_add_72be8_22 (Nat.le_refl _) (by show 0 + ncap cap ≤ ncap cap; omega) ?_
    exact ⟨q, hq, rfl, rfl⟩
  rcases h.2.2.2.2.1 with ⟨he, h0⟩ | ⟨he, hNe, h0⟩
  · subst he
    refine r_iload_n C0 0 3 dJx4a65c_add_72be8_0 rfl rfl ?_
    refine r_aload_n C0 1 2 dJx4a65c_add_72be8_1 rfl rfl ?_
    refine ca_eml C0 2 dJx4a65c_add_72be8_2 ?_
    refine r_icmp_ne C0 3 11 dJx4a65c_add_72be8_3 (by decide) (fun c_3 => ?_) (fun c_3 => ?_)
    · exact absurd (by rw [h0]; rfl) c_3
    · exact key _ rfl
  · refine r_iload_n C0 0 3 dJx4a65c_add_72be8_0 rfl rfl ?_
    refine r_aload_n C0 1 2 dJx4a65c_add_72be8_1 rfl rfl ?_
    refine ca_len C0 2 (by decide) he dJx4a65c_add_72be8_2 ?_
    rw [hNe]
    refine r_icmp_ne C0 3 11 dJx4a65c_add_72be8_3 (by decide) (fun c_3 => ?_) (fun c_3 => ?_)
    · exact absurd rfl c_3
    · exact key _ rfl
theorem AddP.R {te : Nat} {S : CS} {p n e cap x : Nat} {f : Nat → Nat} {v : Int32} (h : LsA te S p n e cap f) (hlt : n < cap) : AddP te S (uI (uB (uI S 50 p v) e (va_up (S.2.2.2.2.2.2.2 e) n (some x))) 51 p (nI (n + 1))) p n e cap x e cap := by
  have he : Is S e 10 ∧ S.2.2.1 e = cap := by
    have hcap := h.2.2.2.1
    rcases h.2.2.2.2.1 with ⟨-, q⟩ | q
    · omega
    · exact ⟨q.1, q.2.1⟩
  refine ⟨fun a ha => ⟨ha, rfl, rfl, rfl⟩, ⟨fun g h1 h2 => ?_, ?_⟩, ⟨fun g hg => rfl, ?_⟩, rfl, fun a ha hne => va_up_ne _ _ hne, he, Or.inl ⟨rfl, rfl, hlt⟩, fun i hi => ?_, ?_⟩
  · show up2 (up2 S.2.2.2.1 50 p v) 51 p _ g = _
    rw [up2_n h2, up2_n h1]
  · show up2 (up2 S.2.2.2.1 50 p v) 51 p _ 51 = _
    rw [up2_s, up2_n (by decide)]
  · funext a
    show S.2.2.2.2.1 8 a = va_up (S.2.2.2.2.1 8) p (some e) a
    unfold va_up
    by_cases q : a = p
    · rw [if_pos q, q]; exact h.2.2.1
    · rw [if_neg q]
  · show va_up S.2.2.2.2.2.2.2 e _ e i = _
    rw [va_up_self, va_up_ne _ _ (by omega)]
  · show va_up S.2.2.2.2.2.2.2 e _ e n = _
    rw [va_up_self, va_up_self]
theorem AddP.F {te : Nat} {S : CS} {p e cap x q : Nat} {f : Nat → Nat} {v : Int32} (h : LsA te S p cap e cap f) (hq : q ∉ S.1) : AddP te S (uI (uB (uR (GrP (uI S 50 p v) e cap (ncap cap) q) 8 p (some q)) q (va_up ((GrP (uI S 50 p v) e cap (ncap cap) q).2.2.2.2.2.2.2 q) cap (some x))) 51 p (nI (cap + 1))) p cap e cap x q (ncap cap) := by
  refine ⟨fun a ha => ?_, ⟨fun g h1 h2 => ?_, ?_⟩, ⟨fun g hg => ?_, ?_⟩, rfl, fun a ha hne => ?_, ⟨GrP_new (S := uI S 50 p v) (e := e) (c := cap) (m := ncap cap), va_up_self _ _ _⟩, Or.inr ⟨hq, rfl, rfl⟩, fun i hi => ?_, ?_⟩
  · have hne : a ≠ q := fun z => hq (z ▸ ha)
    exact ⟨List.mem_append_left _ ha, va_up_ne _ _ hne, va_up_ne _ _ hne, va_up_ne _ _ hne⟩
  · show up2 (up2 S.2.2.2.1 50 p v) 51 p _ g = _
    rw [up2_n h2, up2_n h1]
  · show up2 (up2 S.2.2.2.1 50 p v) 51 p _ 51 = _
    rw [up2_s, up2_n (by decide)]
  · show upr S.2.2.2.2.1 8 p _ g = _
    rw [upr_n hg]
  · show upr S.2.2.2.2.1 8 p _ 8 = _
    exact if_pos rfl
  · have hne2 : a ≠ q := fun z => hq (z ▸ ha)
    show va_up (va_up S.2.2.2.2.2.2.2 q _) q _ a = _
    rw [va_up_ne _ _ hne2, va_up_ne _ _ hne2]
  · show va_up (va_up S.2.2.2.2.2.2.2 q _) q (va_up (va_up S.2.2.2.2.2.2.2 q _ q) cap (some x)) q i = _
    rw [va_up_self, va_up_ne _ _ (by omega), va_up_self, if_pos hi]
  · show va_up (va_up S.2.2.2.2.2.2.2 q _) q _ q cap = _
    rw [va_up_self, va_up_self]
set_option maxRecDepth 100000 in
theorem k_addR {p n e cap x : Nat} {f : Nat → Nat} (h : LsA te S p n e cap f) (hlt : n < cap) (hx : El S x)  : Cn D ar (XC tg te mi) yJx4a65c_add_9ea2d cJx4a65c_add_9ea2d 2 (some .boolean) 6 160 0 0 [.ref p, .ref x] (cW ar S) (fun r w => r = some (.int 1) ∧ ∃ (S' : CS) (e' cap' : Nat), w = cW ar S' ∧ AddP te S S' p n e cap x e' cap') := by
  refine Cn.of (own := RJx4a65c) XC_ok (by decide) rfl (Nat.le_of_ble_eq_true rfl) (fun j C => ?_)
  have C0 := C.to
  show j _ 0 0 0 [(0, _), (1, _)] []
  refine r_aload_n C0 0 0 dJx4a65c_add_9ea2d_0 rfl rfl ?_
  refine r_dup C0 1 dJx4a65c_add_9ea2d_1 rfl ?_
  refine cgI_50 C0 2 (Or.inr rfl) flJx4a65c_63 h.1 dJx4a65c_add_9ea2d_2 ?_
  refine r_iconst C0 5 1 dJx4a65c_add_9ea2d_5 (by decide) ?_
  refine r_iadd C0 6 dJx4a65c_add_9ea2d_6 ?_
  refine cpI_50 C0 7 (Or.inr rfl) flJx4a65c_63 h.1 dJx4a65c_add_9ea2d_7 ?_
  refine r_aload_n C0 10 0 dJx4a65c_add_9ea2d_10 rfl rfl ?_
  refine r_aload_n C0 11 1 dJx4a65c_add_9ea2d_11 rfl rfl ?_
  refine r_aload_n C0 12 0 dJx4a65c_add_9ea2d_12 rfl rfl ?_
  refine cgR_8 C0 13 h.2.2.1 flJx4a65c_9 h.1 dJx4a65c_add_9ea2d_13 ?_
  refine r_aload_n C0 16 0 dJx4a65c_add_9ea2d_16 rfl rfl ?_
  refine cgI_51 C0 17 flJx4a65c_48 h.1 dJx4a65c_add_9ea2d_17 ?_
  rw [show (uI S 50 p (S.2.2.2.1 50 p + 1)).2.2.2.1 51 p = S.2.2.2.1 51 p from rfl, h.2.1]
  refine c_call (As := [.ref _, .ref _, .int _]) C0 20 3 (k_add3R (S := uI S 50 p _) h hlt hx) (rm_Jx4a65c_add_72be8 (Nat.le_of_ble_eq_true rfl) (Nat.le_of_ble_eq_true rfl) (Nat.le_refl _) (Nat.le_refl _)) mlJx4a65c_131 im_Jx4a65c_add_72be8 se_Jx4a65c_add_72be8 (by decide) rfl h.1 rfl (Nat.le_of_ble_eq_true rfl) dJx4a65c_add_9ea2d_20 ?_
  rintro _ _ ⟨rfl, rfl⟩
  refine r_iconst C0 23 1 dJx4a65c_add_9ea2d_23 (by decide) ?_
  refine r_zret C 24 rfl dJx4a65c_add_9ea2d_24 (Nat.le_refl _) (Nat.le_refl _) ?_
  exact ⟨rfl, _, e, cap, rfl, AddP.R h hlt⟩
set_option maxRecDepth 100000 in
theorem k_addF {p e cap x : Nat} {f : Nat → Nat} (h : LsA te S p cap e cap f) (hx : El S x)  : Cn D ar (XC tg te mi) yJx4a65c_add_9ea2d cJx4a65c_add_9ea2d 2 (some .boolean) 6 160 1 (ncap cap) [.ref p, .ref x] (cW ar S) (fun r w => r = some (.int 1) ∧ ∃ (S' : CS) (e' cap' : Nat), w = cW ar S' ∧ AddP te S S' p cap e cap x e' cap') := by
  refine Cn.of (own := RJx4a65c) XC_ok (by decide) rfl (Nat.le_of_ble_eq_true rfl) (fun j C => ?_)
  have C0 := C.to
  show j _ 0 0 0 [(0, _), (1, _)] []
  refine r_aload_n C0 0 0 dJx4a65c_add_9ea2d_0 rfl rfl ?_
  refine r_dup C0 1 dJx4a65c_add_9ea2d_1 rfl ?_
  refine cgI_50 C0 2 (Or.inr rfl) flJx4a65c_63 h.1 dJx4a65c_add_9ea2d_2 ?_
  refine r_iconst C0 5 1 dJx4a65c_add_9ea2d_5 (by decide) ?_
  refine r_iadd C0 6 dJx4a65c_add_9ea2d_6 ?_
  refine cpI_50 C0 7 (Or.inr rfl) flJx4a65c_63 h.1 dJx4a65c_add_9ea2d_7 ?_
  refine r_aload_n C0 10 0 dJx4a65c_add_9ea2d_10 rfl rfl ?_
  refine r_aload_n C0 11 1 dJx4a65c_add_9ea2d_11 rfl rfl ?_
  refine r_aload_n C0 12 0 dJx4a65c_add_9ea2d_12 rfl rfl ?_
  refine cgR_8 C0 13 h.2.2.1 flJx4a65c_9 h.1 dJx4a65c_add_9ea2d_13 ?_
  refine r_aload_n C0 16 0 dJx4a65c_add_9ea2d_16 rfl rfl ?_
  refine cgI_51 C0 17 flJx4a65c_48 h.1 dJx4a65c_add_9ea2d_17 ?_
  rw [show (uI S 50 p (S.2.2.2.1 50 p + 1)).2.2.2.1 51 p = S.2.2.2.1 51 p from rfl, h.2.1]
  refine c_call (As := [.ref _, .ref _, .int _]) C0 20 3 (k_add3F (S := uI S 50 p _) h hx) (rm_Jx4a65c_add_72be8 (Nat.le_of_ble_eq_true rfl) (Nat.le_of_ble_eq_true rfl) (Nat.le_refl _) (by show 0 + ncap cap ≤ ncap cap; omega)) mlJx4a65c_131 im_Jx4a65c_add_72be8 se_Jx4a65c_add_72be8 (by decide) rfl h.1 rfl (Nat.le_of_ble_eq_true rfl) dJx4a65c_add_9ea2d_20 ?_
  rintro _ _ ⟨q, hq, rfl, rfl⟩
  refine r_iconst C0 23 1 dJx4a65c_add_9ea2d_23 (by decide) ?_
  refine r_zret C 24 rfl dJx4a65c_add_9ea2d_24 (Nat.le_refl _) (by show 0 + ncap cap ≤ ncap cap; omega) ?_
  exact ⟨rfl, _, q, ncap cap, rfl, AddP.F h hq⟩
def fRem (S : CS) (p e n : Nat) (g : Nat → Option Nat) (v : Int32) : CS := uB (uI (uI S 50 p v) 51 p (nI (n - 1))) e (va_up g (n - 1) none)
theorem RemP.of {S : CS} {p e n : Nat} {g : Nat → Option Nat} {v : Int32} (hg : ∀ i, i < n - 1 → g i = S.2.2.2.2.2.2.2 e (i + 1)) : RemP S (fRem S p e n g v) p n e := by
  refine ⟨rfl, rfl, rfl, ⟨fun f h1 h2 => ?_, ?_⟩, rfl, rfl, rfl, fun a hne => va_up_ne _ _ hne, fun i hi => ?_⟩
  · show up2 (up2 S.2.2.2.1 50 p v) 51 p _ f = _
    rw [up2_n h2, up2_n h1]
  · show up2 (up2 S.2.2.2.1 50 p v) 51 p _ 51 = _
    rw [up2_s, up2_n (by decide)]
  · show va_up S.2.2.2.2.2.2.2 e _ e i = _
    rw [va_up_self, va_up_ne _ _ (by omega)]
    exact hg i hi
set_option maxRecDepth 100000 in
theorem k_Jx4a65c_fastRemove_b59b0 {p n e cap : Nat} {f : Nat → Nat} (h : LsA te S p n e cap f) (hn : 0 < n)  : Cn D ar (XC tg te mi) yJx4a65c_fastRemove_b59b0 cJx4a65c_fastRemove_b59b0 4 none 1 40 0 0 [.ref p, .ref e, .int 0] (cW ar S) (fun r w => r = none ∧ ∃ (S' : CS), w = cW ar S' ∧ RemP S S' p n e) := by
  refine Cn.of (own := RJx4a65c) XC_ok (by decide) rfl (Nat.le_of_ble_eq_true rfl) (fun j C => ?_)
  have C0 := C.to
  show j _ 0 0 0 [(0, _), (1, _), (2, _)] []
  have hcap := h.2.2.2.1
  have he := h.arr hn
  have hsz : up2 S.2.2.2.1 50 p (S.2.2.2.1 50 p + 1) 51 p - 1 = nI (n - 1) := nI_pr h.2.1 hn
  refine r_aload_n C0 0 0 dJx4a65c_fastRemove_b59b0_0 rfl rfl ?_
  refine r_dup C0 1 dJx4a65c_fastRemove_b59b0_1 rfl ?_
  refine cgI_50 C0 2 (Or.inr rfl) flJx4a65c_63 h.1 dJx4a65c_fastRemove_b59b0_2 ?_
  refine r_iconst C0 5 1 dJx4a65c_fastRemove_b59b0_5 (by decide) ?_
  refine r_iadd C0 6 dJx4a65c_fastRemove_b59b0_6 ?_
  refine cpI_50 C0 7 (Or.inr rfl) flJx4a65c_63 h.1 dJx4a65c_fastRemove_b59b0_7 ?_
  refine r_aload_n C0 10 0 dJx4a65c_fastRemove_b59b0_10 rfl rfl ?_
  refine cgI_51 C0 11 flJx4a65c_48 h.1 dJx4a65c_fastRemove_b59b0_11 ?_
  refine r_iconst C0 14 1 dJx4a65c_fastRemove_b59b0_14 (by decide) ?_
  refine r_isub C0 15 dJx4a65c_fastRemove_b59b0_15 ?_
  rw [hsz]
  refine r_dup C0 16 dJx4a65c_fastRemove_b59b0_16 rfl ?_
  refine r_istore_n (lv' := [(0, _), (1, _), (2, _), (3, _)]) C0 17 3 dJx4a65c_fastRemove_b59b0_17 rfl rfl (by decide) rfl ?_
  refine r_iload_n C0 18 2 dJx4a65c_fastRemove_b59b0_18 rfl rfl ?_
  refine r_icmp_le C0 19 34 dJx4a65c_fastRemove_b59b0_19 (by decide) (fun c_19 => ?_) (fun c_19 => ?_)
  · refine r_aload_n C0 34 1 dJx4a65c_fastRemove_b59b0_34 rfl rfl ?_
    refine r_aload_n C0 35 0 dJx4a65c_fastRemove_b59b0_35 rfl rfl ?_
    refine r_iload_n C0 36 3 dJx4a65c_fastRemove_b59b0_36 rfl rfl ?_
    refine r_dup_x1 C0 37 dJx4a65c_fastRemove_b59b0_37 rfl rfl ?_
    refine cpI_51 C0 38 flJx4a65c_48 h.1 dJx4a65c_fastRemove_b59b0_38 ?_
    refine r_null C0 41 dJx4a65c_fastRemove_b59b0_41 ?_
    refine ca_astN C0 42 (n - 1) (by decide) he.1 rfl (by show n - 1 < S.2.2.1 e; rw [he.2]; omega) (by show S.2.2.1 e < _; rw [he.2]; omega) dJx4a65c_fastRemove_b59b0_42 ?_
    refine r_vret C 43 dJx4a65c_fastRemove_b59b0_43 (Nat.le_refl _) (Nat.le_refl _) ?_
    refine ⟨rfl, fRem S p e n (S.2.2.2.2.2.2.2 e) (S.2.2.2.1 50 p + 1), rfl, RemP.of (fun i hi => ?_)⟩
    have : n - 1 = 0 := Classical.byContradiction (fun z => nI_nle (n := n - 1) (by omega) (by omega) c_19)
    omega
  · refine r_aload_n C0 22 1 dJx4a65c_fastRemove_b59b0_22 rfl rfl ?_
    refine r_iload_n C0 23 2 dJx4a65c_fastRemove_b59b0_23 rfl rfl ?_
    refine r_iconst C0 24 1 dJx4a65c_fastRemove_b59b0_24 (by decide) ?_
    refine r_iadd C0 25 dJx4a65c_fastRemove_b59b0_25 ?_
    refine r_aload_n C0 26 1 dJx4a65c_fastRemove_b59b0_26 rfl rfl ?_
    refine r_iload_n C0 27 2 dJx4a65c_fastRemove_b59b0_27 rfl rfl ?_
    refine r_iload_n C0 28 3 dJx4a65c_fastRemove_b59b0_28 rfl rfl ?_
    refine r_iload_n C0 29 2 dJx4a65c_fastRemove_b59b0_29 rfl rfl ?_
    refine r_isub C0 30 dJx4a65c_fastRemove_b59b0_30 ?_
    rw [show nI (n - 1) - 0 = nI (n - 1) by simp]
    refine ca_copy (S := uI S 50 p (S.2.2.2.1 50 p + 1)) C0 31 1 0 (n - 1) mlJx4a65c_112 he.1 he.1 rfl rfl rfl (by show 1 + (n - 1) ≤ S.2.2.1 e; rw [he.2]; omega) (by show 0 + (n - 1) ≤ S.2.2.1 e; rw [he.2]; omega) (by show S.2.2.1 e < _; rw [he.2]; omega) (by show S.2.2.1 e < _; rw [he.2]; omega) (fun i hi y hy => by have h9 := h.2.2.2.2.2 (1 + i) (by omega); rw [show (uI S 50 p (S.2.2.2.1 50 p + 1)).2.2.2.2.2.2.2 e (1 + i) = some (f (1 + i)) from h9.1] at hy; cases hy; exact h9.2) (Nat.le_of_ble_eq_true rfl) (Nat.le_of_ble_eq_true rfl) dJx4a65c_fastRemove_b59b0_31 ?_
    refine r_aload_n C0 34 1 dJx4a65c_fastRemove_b59b0_34 rfl rfl ?_
    refine r_aload_n C0 35 0 dJx4a65c_fastRemove_b59b0_35 rfl rfl ?_
    refine r_iload_n C0 36 3 dJx4a65c_fastRemove_b59b0_36 rfl rfl ?_
    refine r_dup_x1 C0 37 dJx4a65c_fastRemove_b59b0_37 rfl rfl ?_
    refine cpI_51 C0 38 flJx4a65c_48 h.1 dJx4a65c_fastRemove_b59b0_38 ?_
    refine r_null C0 41 dJx4a65c_fastRemove_b59b0_41 ?_
    refine ca_astN C0 42 (n - 1) (by decide) he.1 rfl (by show n - 1 < S.2.2.1 e; rw [he.2]; omega) (by show S.2.2.1 e < _; rw [he.2]; omega) dJx4a65c_fastRemove_b59b0_42 ?_
    refine r_vret C 43 dJx4a65c_fastRemove_b59b0_43 (Nat.le_refl _) (Nat.le_refl _) ?_
    refine ⟨rfl, fRem S p e n (va_cpy (S.2.2.2.2.2.2.2 e) (S.2.2.2.2.2.2.2 e) 1 0 (n - 1)) (S.2.2.2.1 50 p + 1), ?_, RemP.of (fun i hi => ?_)⟩
    · refine congrArg (cW ar) ?_
      unfold fRem
      refine congrArg _ (congrArg _ (congrArg _ (congrArg _ (congrArg _ (congrArg _ (congrArg _ ?_))))))
      show va_up (va_up S.2.2.2.2.2.2.2 e _) e (va_up (va_up S.2.2.2.2.2.2.2 e _ e) (n - 1) none) = _
      rw [bx_uu, va_up_self]
    · unfold va_cpy
      rw [if_pos (by omega)]
      rw [show 1 + (i - 0) = i + 1 by omega]
set_option maxRecDepth 100000 in
theorem k_Jx4a65c_remove_915e3 {p n e cap : Nat} {f : Nat → Nat} (h : LsA te S p n e cap f) (hn : 0 < n)  : Cn D ar (XC tg te mi) yJx4a65c_remove_915e3 cJx4a65c_remove_915e3 4 (some (.object "java/lang/Object")) 2 63 0 0 [.ref p, .int 0] (cW ar S) (fun r w => r = some (.ref (f 0)) ∧ ∃ (S' : CS), w = cW ar S' ∧ RemP S S' p n e) := by
  refine Cn.of (own := RJx4a65c) XC_ok (by decide) rfl (Nat.le_of_ble_eq_true rfl) (fun j C => ?_)
  have C0 := C.to
  show j _ 0 0 0 [(0, _), (1, _)] []
  have hcap := h.2.2.2.1
  have he := h.arr hn
  refine r_iload_n C0 0 1 dJx4a65c_remove_915e3_0 rfl rfl ?_
  refine r_aload_n C0 1 0 dJx4a65c_remove_915e3_1 rfl rfl ?_
  refine cgI_51 C0 2 flJx4a65c_48 h.1 dJx4a65c_remove_915e3_2 ?_
  rw [h.2.1]
  refine s_call (As := [.int _, .int _]) C0 5 2 (k_J15_checkIndex_7cf53 (x := 0) XC_ok _ hn (by omega)) (rm_J15_checkIndex_7cf53 (by decide) (by decide) (Nat.le_refl _) (Nat.le_refl _)) mlJx4a65c_118 st_J15_checkIndex_7cf53 rfl (Nat.le_of_ble_eq_true rfl) dJx4a65c_remove_915e3_5 ?_
  rintro _ _ ⟨rfl, rfl⟩
  refine r_pop C0 8 dJx4a65c_remove_915e3_8 rfl ?_
  refine r_aload_n C0 9 0 dJx4a65c_remove_915e3_9 rfl rfl ?_
  refine cgR_8 C0 10 h.2.2.1 flJx4a65c_9 h.1 dJx4a65c_remove_915e3_10 ?_
  refine r_astore_n (lv' := [(0, _), (1, _), (2, _)]) C0 13 2 dJx4a65c_remove_915e3_13 rfl rfl (by decide) rfl ?_
  refine r_aload_n C0 14 2 dJx4a65c_remove_915e3_14 rfl rfl ?_
  refine r_iload_n C0 15 1 dJx4a65c_remove_915e3_15 rfl rfl ?_
  refine ca_ald C0 16 0 (by decide) he.1 rfl (by rw [he.2]; omega) (by rw [he.2]; omega) (h.2.2.2.2.2 0 hn).1 dJx4a65c_remove_915e3_16 ?_
  refine r_astore_n (lv' := [(0, _), (1, _), (2, _), (3, _)]) C0 17 3 dJx4a65c_remove_915e3_17 rfl rfl (by decide) rfl ?_
  refine r_aload_n C0 18 0 dJx4a65c_remove_915e3_18 rfl rfl ?_
  refine r_aload_n C0 19 2 dJx4a65c_remove_915e3_19 rfl rfl ?_
  refine r_iload_n C0 20 1 dJx4a65c_remove_915e3_20 rfl rfl ?_
  refine c_call (As := [.ref _, .int _]) C0 21 2 (k_Jx4a65c_fastRemove_b59b0 h hn) (rm_Jx4a65c_fastRemove_b59b0 (by decide) (by decide) (Nat.le_refl _) (Nat.le_refl _)) mlJx4a65c_144 im_Jx4a65c_fastRemove_b59b0 se_Jx4a65c_fastRemove_b59b0 (by decide) rfl h.1 rfl (Nat.le_of_ble_eq_true rfl) dJx4a65c_remove_915e3_21 ?_
  rintro _ _ ⟨rfl, S', rfl, hR⟩
  refine r_aload_n C0 24 3 dJx4a65c_remove_915e3_24 rfl rfl ?_
  refine r_aret C 25 (by first | exact Or.inl ⟨_, rfl⟩ | exact Or.inr ⟨_, rfl⟩) (by first | exact Or.inr ⟨_, rfl⟩ | exact Or.inl rfl) dJx4a65c_remove_915e3_25 (Nat.le_refl _) (Nat.le_refl _) ?_
  exact ⟨rfl, S', rfl, hR⟩
set_option maxRecDepth 100000 in
theorem k_Jxa1e45_init_da8c8 {X : XT} (hX : Xok X) {p : Nat} (ws : va_W)  : Cn D ar X yJxa1e45_init_da8c8 cJxa1e45_init_da8c8 1 none 1 12 0 0 [.ref p] ws (fun r w => r = none ∧ w = ws) := by
  refine Cn.of (own := RJxa1e45) hX (by decide) rfl (Nat.le_of_ble_eq_true rfl) (fun j C => ?_)
  have C0 := C.to
  show j _ 0 0 0 [(0, _)] []
  refine r_aload_n C0 0 0 dJxa1e45_init_da8c8_0 rfl rfl ?_
  refine r_objInit C0 1 mlJxa1e45_1 im_oi co_oi dJxa1e45_init_da8c8_1 (Nat.le_of_ble_eq_true rfl) (Nat.le_of_ble_eq_true rfl) ?_
  refine r_vret C 4 dJxa1e45_init_da8c8_4 (Nat.le_refl _) (Nat.le_refl _) ?_
  exact ⟨rfl, rfl⟩
set_option maxRecDepth 100000 in
theorem k_Jxc12de_init_da8c8 {X : XT} (hX : Xok X) {p : Nat} (hp : Is S p 6)  : Cn D ar X yJxc12de_init_da8c8 cJxc12de_init_da8c8 1 none 2 32 0 0 [.ref p] (cW ar S) (fun r w => r = none ∧ w = cW ar (uI S 50 p 0)) := by
  refine Cn.of (own := RJxc12de) hX (by decide) rfl (Nat.le_of_ble_eq_true rfl) (fun j C => ?_)
  have C0 := C.to
  show j _ 0 0 0 [(0, _)] []
  refine r_aload_n C0 0 0 dJxc12de_init_da8c8_0 rfl rfl ?_
  refine c_init (As := []) C0 1 0 (k_Jxa1e45_init_da8c8 hX _) (rm_Jxa1e45_init_da8c8 (by decide) (by decide) (Nat.le_refl _) (Nat.le_refl _)) mlJxc12de_1 im_Jxa1e45_init_da8c8 rfl rfl (Nat.le_of_ble_eq_true rfl) dJxc12de_init_da8c8_1 ?_
  rintro _ _ ⟨rfl, rfl⟩
  refine r_aload_n C0 4 0 dJxc12de_init_da8c8_4 rfl rfl ?_
  refine r_iconst C0 5 0 dJxc12de_init_da8c8_5 (by decide) ?_
  refine cpI_50 C0 6 (Or.inl rfl) flJxc12de_7 hp dJxc12de_init_da8c8_6 ?_
  refine r_vret C 9 dJxc12de_init_da8c8_9 (Nat.le_refl _) (Nat.le_refl _) ?_
  exact ⟨rfl, rfl⟩
set_option maxRecDepth 100000 in
theorem k_Jx4a65c_init_da8c8 {p : Nat} (hp : Is S p 6)  : Cn D ar (XC tg te mi) yJx4a65c_init_da8c8 cJx4a65c_init_da8c8 1 none 3 52 0 0 [.ref p] (cW ar S) (fun r w => r = none ∧ w = cW ar (uR (uI S 50 p 0) 8 p (some te))) := by
  refine Cn.of (own := RJx4a65c) XC_ok (by decide) rfl (Nat.le_of_ble_eq_true rfl) (fun j C => ?_)
  have C0 := C.to
  show j _ 0 0 0 [(0, _)] []
  refine r_aload_n C0 0 0 dJx4a65c_init_da8c8_0 rfl rfl ?_
  refine c_init (As := []) C0 1 0 (k_Jxc12de_init_da8c8 XC_ok hp) (rm_Jxc12de_init_da8c8 (by decide) (by decide) (Nat.le_refl _) (Nat.le_refl _)) mlJx4a65c_1 im_Jxc12de_init_da8c8 rfl rfl (Nat.le_of_ble_eq_true rfl) dJx4a65c_init_da8c8_1 ?_
  rintro _ _ ⟨rfl, rfl⟩
  refine r_aload_n C0 4 0 dJx4a65c_init_da8c8_4 rfl rfl ?_
  refine ca_em C0 5 flJx4a65c_39 dJx4a65c_init_da8c8_5 ?_
  refine cpR_8 C0 8 flJx4a65c_9 hp dJx4a65c_init_da8c8_8 ?_
  refine r_vret C 11 dJx4a65c_init_da8c8_11 (Nat.le_refl _) (Nat.le_refl _) ?_
  exact ⟨rfl, rfl⟩
end C19
