/-! the class: pack, about, told, free, count, at -/
section C22
variable {D : va_G} {ar : Nat → ClassId} {tg te mi : Nat} {S : CS}
variable {a v : Nat → Nat} {w : Nat → Nat → Nat} {E Q W P O : Nat} {M : Nat → Nat → Int32} {T : Int64}
set_option maxRecDepth 100000 in
theorem k_X4_pack (hs : cHs a S M T) (pk : cPk te a v w P S M) (pa : cPa w P S M) (p wh : Int32)  : Cn D ar (XC tg te mi) yX4_pack cX4_pack 4 (some .int) 3 64 0 0 [.ref (a 0), .int p, .int wh] (cW ar S) (fun r w9 => r = some (.int (pckA M p wh)) ∧ w9 = cW ar S) := by
  refine Cn.of (own := RX4) XC_ok (by decide) rfl (Nat.le_of_ble_eq_true rfl) (fun j C => ?_)
  have C0 := C.to
  show j _ 0 0 0 [(0, _), (1, _), (2, _)] []
  have hP := pk.1.2
  have hP6 := pk.1.1
  refine r_aload_n C0 0 0 dX4_pack_0 rfl rfl ?_
  refine r_iload_n C0 1 1 dX4_pack_1 rfl rfl ?_
  refine c_call (As := [.int _]) C0 2 1 (k_X4_isPack XC_ok hs.1 hs.2.1.2.2.2.2.1 pk.2.1 _) (rm_X4_isPack (by decide) (by decide) (Nat.le_refl _) (Nat.le_refl _)) mlX4_134 im_X4_isPack se_X4_isPack (by decide) rfl hs.1 rfl (Nat.le_of_ble_eq_true rfl) dX4_pack_2 ?_
  rintro _ _ ⟨rfl, rfl⟩
  rw [pk.2.2.1]
  refine r_if_ne C0 5 10 dX4_pack_5 (by decide) (fun c_5 => ?_) (fun c_5 => ?_)
  · obtain ⟨x, hx, rfl⟩ : ∃ x : Nat, x < P ∧ p = nI x := inR_p (by omega) c_5
    have hcl : (nI x).toNatClampNeg = x := nI_clamp (by omega)
    have d := pa x hx
    refine r_aload_n C0 10 0 dX4_pack_10 rfl rfl ?_
    refine cgR_5 C0 11 hs.2.1.2.2.2.2.1 flX4_31 hs.1 dX4_pack_11 ?_
    refine r_iload_n C0 14 1 dX4_pack_14 rfl rfl ?_
    refine c_call (As := [.int _]) C0 15 1 (k_Jx4a65c_get_915e3 XC_ok pk.2 hx) (rm_Jx4a65c_get_915e3 (by decide) (by decide) (Nat.le_refl _) (Nat.le_refl _)) mlX4_137 im_Jx4a65c_get_915e3 se_Jx4a65c_get_915e3 (by decide) rfl pk.2.1 rfl (Nat.le_of_ble_eq_true rfl) dX4_pack_15 ?_
    rintro _ _ ⟨rfl, rfl⟩
    refine ca_cast C0 18 (by decide) rfl clX4_89 (pa x hx).1 dX4_pack_18 ?_
    refine r_astore_n (lv' := [(0, _), (1, _), (2, _), (3, _)]) C0 21 3 dX4_pack_21 rfl rfl (by decide) rfl ?_
    refine r_iload_n C0 22 2 dX4_pack_22 rfl rfl ?_
    rcases swc 8 (by decide) wh with ⟨i, hi, rfl⟩ | ho
    · rcases (show i = 0 ∨ i = 1 ∨ i = 2 ∨ i = 3 ∨ i = 4 ∨ i = 5 ∨ i = 6 ∨ i = 7 by omega) with rfl | rfl | rfl | rfl | rfl | rfl | rfl | rfl
      · refine r_tableIn C0 23 68 dX4_pack_23 (by decide) (by decide) rfl (by decide) ?_
        refine r_aload_n C0 68 3 dX4_pack_68 rfl rfl ?_
        refine cgI_20 C0 69 flX4_141 (pa x hx).1 dX4_pack_69 ?_
        refine r_iret C 72 dX4_pack_72 (Nat.le_refl _) (Nat.le_refl _) ?_
        exact ⟨by rw [d.2.1]; simp only [pckA, hP, hcl, eq_false c_5]; rfl, rfl⟩
      · refine r_tableIn C0 23 73 dX4_pack_23 (by decide) (by decide) rfl (by decide) ?_
        refine r_aload_n C0 73 3 dX4_pack_73 rfl rfl ?_
        refine cgI_22 C0 74 flX4_122 (pa x hx).1 dX4_pack_74 ?_
        refine r_iret C 77 dX4_pack_77 (Nat.le_refl _) (Nat.le_refl _) ?_
        exact ⟨by rw [d.2.2.1]; simp only [pckA, hP, hcl, eq_false c_5]; rfl, rfl⟩
      · refine r_tableIn C0 23 78 dX4_pack_23 (by decide) (by decide) rfl (by decide) ?_
        refine r_aload_n C0 78 3 dX4_pack_78 rfl rfl ?_
        refine cgI_23 C0 79 flX4_142 (pa x hx).1 dX4_pack_79 ?_
        refine r_iret C 82 dX4_pack_82 (Nat.le_refl _) (Nat.le_refl _) ?_
        exact ⟨by rw [d.2.2.2.1]; simp only [pckA, hP, hcl, eq_false c_5]; rfl, rfl⟩
      · refine r_tableIn C0 23 83 dX4_pack_23 (by decide) (by decide) rfl (by decide) ?_
        refine r_aload_n C0 83 3 dX4_pack_83 rfl rfl ?_
        refine cgI_24 C0 84 flX4_145 (pa x hx).1 dX4_pack_84 ?_
        refine r_iret C 87 dX4_pack_87 (Nat.le_refl _) (Nat.le_refl _) ?_
        exact ⟨by rw [d.2.2.2.2.1]; simp only [pckA, hP, hcl, eq_false c_5]; rfl, rfl⟩
      · refine r_tableIn C0 23 88 dX4_pack_23 (by decide) (by decide) rfl (by decide) ?_
        refine r_aload_n C0 88 3 dX4_pack_88 rfl rfl ?_
        refine cgI_27 C0 89 flX4_148 (pa x hx).1 dX4_pack_89 ?_
        refine r_iret C 92 dX4_pack_92 (Nat.le_refl _) (Nat.le_refl _) ?_
        exact ⟨by rw [d.2.2.2.2.2.2.2.1]; simp only [pckA, hP, hcl, eq_false c_5]; rfl, rfl⟩
      · refine r_tableIn C0 23 93 dX4_pack_23 (by decide) (by decide) rfl (by decide) ?_
        refine r_aload_n C0 93 3 dX4_pack_93 rfl rfl ?_
        refine cgI_28 C0 94 flX4_151 (pa x hx).1 dX4_pack_94 ?_
        refine s_call (As := [.int _]) C0 97 1 (k_X4_asNumber XC_ok _ _) (rm_X4_asNumber (by decide) (by decide) (Nat.le_refl _) (Nat.le_refl _)) mlX4_100 st_X4_asNumber rfl (Nat.le_of_ble_eq_true rfl) dX4_pack_97 ?_
        rintro _ _ ⟨rfl, rfl⟩
        refine r_iret C 100 dX4_pack_100 (Nat.le_refl _) (Nat.le_refl _) ?_
        exact ⟨by rw [d.2.2.2.2.2.2.2.2]; simp only [pckA, hP, hcl, eq_false c_5]; rfl, rfl⟩
      · refine r_tableIn C0 23 101 dX4_pack_23 (by decide) (by decide) rfl (by decide) ?_
        refine r_aload_n C0 101 3 dX4_pack_101 rfl rfl ?_
        refine cgI_25 C0 102 flX4_154 (pa x hx).1 dX4_pack_102 ?_
        refine r_iret C 105 dX4_pack_105 (Nat.le_refl _) (Nat.le_refl _) ?_
        exact ⟨by rw [d.2.2.2.2.2.1]; simp only [pckA, hP, hcl, eq_false c_5]; rfl, rfl⟩
      · refine r_tableIn C0 23 106 dX4_pack_23 (by decide) (by decide) rfl (by decide) ?_
        refine r_aload_n C0 106 3 dX4_pack_106 rfl rfl ?_
        refine cgI_26 C0 107 flX4_157 (pa x hx).1 dX4_pack_107 ?_
        refine r_iret C 110 dX4_pack_110 (Nat.le_refl _) (Nat.le_refl _) ?_
        exact ⟨by rw [d.2.2.2.2.2.2.1]; simp only [pckA, hP, hcl, eq_false c_5]; rfl, rfl⟩
    · refine r_tableOut C0 23 111 dX4_pack_23 ho (by decide) ?_
      refine r_iconst C0 111 (-1) dX4_pack_111 (by decide) ?_
      refine r_iret C 112 dX4_pack_112 (Nat.le_refl _) (Nat.le_refl _) ?_
      exact ⟨by simp [pckA, hP, swn ho (c := 0) (by decide), swn ho (c := 1) (by decide), swn ho (c := 2) (by decide), swn ho (c := 3) (by decide), swn ho (c := 4) (by decide), swn ho (c := 5) (by decide), swn ho (c := 6) (by decide), swn ho (c := 7) (by decide), eq_false c_5], rfl⟩
  · refine r_iconst C0 8 (-1) dX4_pack_8 (by decide) ?_
    refine r_iret C 9 dX4_pack_9 (Nat.le_refl _) (Nat.le_refl _) ?_
    exact ⟨by simp [pckA, hP, eq_true c_5], rfl⟩
set_option maxRecDepth 100000 in
theorem k_X4_about (hs : cHs a S M T) (od : cOr te a v w O S M) (oo : cOd w O S M) (o wh : Int32)  : Cn D ar (XC tg te mi) yX4_about cX4_about 4 (some .int) 3 64 0 0 [.ref (a 0), .int o, .int wh] (cW ar S) (fun r w9 => r = some (.int (abtA M o wh)) ∧ w9 = cW ar S) := by
  refine Cn.of (own := RX4) XC_ok (by decide) rfl (Nat.le_of_ble_eq_true rfl) (fun j C => ?_)
  have C0 := C.to
  show j _ 0 0 0 [(0, _), (1, _), (2, _)] []
  have hO := od.1.2
  have hO6 := od.1.1
  refine r_iload_n C0 0 1 dX4_about_0 rfl rfl ?_
  refine r_iconst C0 1 0 dX4_about_1 (by decide) ?_
  refine r_aload_n C0 2 0 dX4_about_2 rfl rfl ?_
  refine cgR_6 C0 3 hs.2.1.2.2.2.2.2.1 flX4_34 hs.1 dX4_about_3 ?_
  refine c_call (As := []) C0 6 0 (k_Jx4a65c_size_8abf5 XC_ok od.2.1) (rm_Jx4a65c_size_8abf5 (by decide) (by decide) (Nat.le_refl _) (Nat.le_refl _)) mlX4_53 im_Jx4a65c_size_8abf5 se_Jx4a65c_size_8abf5 (by decide) rfl od.2.1 rfl (Nat.le_of_ble_eq_true rfl) dX4_about_6 ?_
  rintro _ _ ⟨rfl, rfl⟩
  rw [od.2.2.1]
  refine r_iconst C0 9 1 dX4_about_9 (by decide) ?_
  refine r_isub C0 10 dX4_about_10 ?_
  refine s_call (As := [.int _, .int _, .int _]) C0 11 3 (k_X4_isWithin XC_ok _ _ _ _) (rm_X4_isWithin (by decide) (by decide) (Nat.le_refl _) (Nat.le_refl _)) mlX4_49 st_X4_isWithin rfl (Nat.le_of_ble_eq_true rfl) dX4_about_11 ?_
  rintro _ _ ⟨rfl, rfl⟩
  refine r_if_ne C0 14 19 dX4_about_14 (by decide) (fun c_14 => ?_) (fun c_14 => ?_)
  · obtain ⟨x, hx, rfl⟩ : ∃ x : Nat, x < O ∧ o = nI x := inR_p (by omega) c_14
    have hcl : (nI x).toNatClampNeg = x := nI_clamp (by omega)
    have d := oo x hx
    refine r_aload_n C0 19 0 dX4_about_19 rfl rfl ?_
    refine cgR_6 C0 20 hs.2.1.2.2.2.2.2.1 flX4_34 hs.1 dX4_about_20 ?_
    refine r_iload_n C0 23 1 dX4_about_23 rfl rfl ?_
    refine c_call (As := [.int _]) C0 24 1 (k_Jx4a65c_get_915e3 XC_ok od.2 hx) (rm_Jx4a65c_get_915e3 (by decide) (by decide) (Nat.le_refl _) (Nat.le_refl _)) mlX4_137 im_Jx4a65c_get_915e3 se_Jx4a65c_get_915e3 (by decide) rfl od.2.1 rfl (Nat.le_of_ble_eq_true rfl) dX4_about_24 ?_
    rintro _ _ ⟨rfl, rfl⟩
    refine ca_cast C0 27 (by decide) rfl clX4_163 (oo x hx).1 dX4_about_27 ?_
    refine r_astore_n (lv' := [(0, _), (1, _), (2, _), (3, _)]) C0 30 3 dX4_about_30 rfl rfl (by decide) rfl ?_
    refine r_iload_n C0 31 2 dX4_about_31 rfl rfl ?_
    rcases swc 4 (by decide) wh with ⟨i, hi, rfl⟩ | ho
    · rcases (show i = 0 ∨ i = 1 ∨ i = 2 ∨ i = 3 by omega) with rfl | rfl | rfl | rfl
      · refine r_tableIn C0 32 64 dX4_about_32 (by decide) (by decide) rfl (by decide) ?_
        refine r_aload_n C0 64 3 dX4_about_64 rfl rfl ?_
        refine cgI_10 C0 65 flX4_181 (oo x hx).1 dX4_about_65 ?_
        refine r_iret C 68 dX4_about_68 (Nat.le_refl _) (Nat.le_refl _) ?_
        exact ⟨by rw [d.2.1]; simp only [abtA, hO, hcl, eq_false c_14]; rfl, rfl⟩
      · refine r_tableIn C0 32 69 dX4_about_32 (by decide) (by decide) rfl (by decide) ?_
        refine r_aload_n C0 69 3 dX4_about_69 rfl rfl ?_
        refine cgI_11 C0 70 flX4_182 (oo x hx).1 dX4_about_70 ?_
        refine r_iret C 73 dX4_about_73 (Nat.le_refl _) (Nat.le_refl _) ?_
        exact ⟨by rw [d.2.2.1]; simp only [abtA, hO, hcl, eq_false c_14]; rfl, rfl⟩
      · refine r_tableIn C0 32 74 dX4_about_32 (by decide) (by decide) rfl (by decide) ?_
        refine r_aload_n C0 74 3 dX4_about_74 rfl rfl ?_
        refine cgI_12 C0 75 flX4_185 (oo x hx).1 dX4_about_75 ?_
        refine r_iret C 78 dX4_about_78 (Nat.le_refl _) (Nat.le_refl _) ?_
        exact ⟨by rw [d.2.2.2.1]; simp only [abtA, hO, hcl, eq_false c_14]; rfl, rfl⟩
      · refine r_tableIn C0 32 79 dX4_about_32 (by decide) (by decide) rfl (by decide) ?_
        refine r_aload_n C0 79 3 dX4_about_79 rfl rfl ?_
        refine cgI_13 C0 80 flX4_188 (oo x hx).1 dX4_about_80 ?_
        refine s_call (As := [.int _]) C0 83 1 (k_X4_asNumber XC_ok _ _) (rm_X4_asNumber (by decide) (by decide) (Nat.le_refl _) (Nat.le_refl _)) mlX4_100 st_X4_asNumber rfl (Nat.le_of_ble_eq_true rfl) dX4_about_83 ?_
        rintro _ _ ⟨rfl, rfl⟩
        refine r_iret C 86 dX4_about_86 (Nat.le_refl _) (Nat.le_refl _) ?_
        exact ⟨by rw [d.2.2.2.2]; simp only [abtA, hO, hcl, eq_false c_14]; rfl, rfl⟩
    · refine r_tableOut C0 32 87 dX4_about_32 ho (by decide) ?_
      refine r_iconst C0 87 (-1) dX4_about_87 (by decide) ?_
      refine r_iret C 88 dX4_about_88 (Nat.le_refl _) (Nat.le_refl _) ?_
      exact ⟨by simp [abtA, hO, swn ho (c := 0) (by decide), swn ho (c := 1) (by decide), swn ho (c := 2) (by decide), swn ho (c := 3) (by decide), eq_false c_14], rfl⟩
  · refine r_iconst C0 17 (-1) dX4_about_17 (by decide) ?_
    refine r_iret C 18 dX4_about_18 (Nat.le_refl _) (Nat.le_refl _) ?_
    exact ⟨by simp [abtA, hO, eq_true c_14], rfl⟩
set_option maxRecDepth 100000 in
theorem k_X4_packsSold (hs : cHs a S M T) (pk : cPk te a v w P S M) (pa : cPa w P S M)  : Cn D ar (XC tg te mi) yX4_packsSold cX4_packsSold 3 (some .int) 3 64 0 0 [.ref (a 0)] (cW ar S) (fun r w9 => r = some (.int (sldN M P)) ∧ w9 = cW ar S) := by
  refine Cn.of (own := RX4) XC_ok (by decide) rfl (Nat.le_of_ble_eq_true rfl) (fun j C => ?_)
  have C0 := C.to
  show j _ 0 0 0 [(0, _)] []
  have hP6 := pk.1.1
  refine r_iconst C0 0 0 dX4_packsSold_0 (by decide) ?_
  refine r_istore_n (lv' := [(0, _), (1, _)]) C0 1 1 dX4_packsSold_1 rfl rfl (by decide) rfl ?_
  refine r_iconst C0 2 0 dX4_packsSold_2 (by decide) ?_
  refine r_istore_n (lv' := [(0, _), (1, _), (2, _)]) C0 3 2 dX4_packsSold_3 rfl rfl (by decide) rfl ?_
  refine loopUp (P := P) (f := fun i => j (cW ar S) 0 0 4 [(0, .ref (a 0)), (1, .int (sldN M i)), (2, .int (nI i))] []) (fun i hi ih => ?_) 0 (Nat.zero_le _)
  refine r_iload_n C0 4 2 dX4_packsSold_4 rfl rfl ?_
  refine r_aload_n C0 5 0 dX4_packsSold_5 rfl rfl ?_
  refine cgR_5 C0 6 hs.2.1.2.2.2.2.1 flX4_31 hs.1 dX4_packsSold_6 ?_
  refine c_call (As := []) C0 9 0 (k_Jx4a65c_size_8abf5 XC_ok pk.2.1) (rm_Jx4a65c_size_8abf5 (by decide) (by decide) (Nat.le_refl _) (Nat.le_refl _)) mlX4_53 im_Jx4a65c_size_8abf5 se_Jx4a65c_size_8abf5 (by decide) rfl pk.2.1 rfl (Nat.le_of_ble_eq_true rfl) dX4_packsSold_9 ?_
  rintro _ _ ⟨rfl, rfl⟩
  rw [pk.2.2.1]
  refine r_icmp_ge C0 12 43 dX4_packsSold_12 (by decide) (fun c_12 => ?_) (fun c_12 => ?_)
  · have hge : P ≤ i := (nI_leI (by omega) (by omega)).mp c_12
    refine r_iload_n C0 43 1 dX4_packsSold_43 rfl rfl ?_
    refine r_iret C 44 dX4_packsSold_44 (Nat.le_refl _) (Nat.le_refl _) ?_
    have e : i = P := by omega
    subst e
    exact ⟨rfl, rfl⟩
  · have hlt : i < P := Nat.lt_of_not_le (fun q => c_12 (nI_le q (by omega)))
    refine r_aload_n C0 15 0 dX4_packsSold_15 rfl rfl ?_
    refine cgR_5 C0 16 hs.2.1.2.2.2.2.1 flX4_31 hs.1 dX4_packsSold_16 ?_
    refine r_iload_n C0 19 2 dX4_packsSold_19 rfl rfl ?_
    refine c_call (As := [.int _]) C0 20 1 (k_Jx4a65c_get_915e3 XC_ok pk.2 hlt) (rm_Jx4a65c_get_915e3 (by decide) (by decide) (Nat.le_refl _) (Nat.le_refl _)) mlX4_137 im_Jx4a65c_get_915e3 se_Jx4a65c_get_915e3 (by decide) rfl pk.2.1 rfl (Nat.le_of_ble_eq_true rfl) dX4_packsSold_20 ?_
    rintro _ _ ⟨rfl, rfl⟩
    refine ca_cast C0 23 (by decide) rfl clX4_89 (pa i hlt).1 dX4_packsSold_23 ?_
    refine cgI_27 C0 26 flX4_148 (pa i hlt).1 dX4_packsSold_26 ?_
    rw [(pa i hlt).2.2.2.2.2.2.2.1]
    refine r_bipush C0 29 (-9) dX4_packsSold_29 (by decide) ?_
    refine r_icmp_eq C0 31 37 dX4_packsSold_31 (by decide) (fun c_31 => ?_) (fun c_31 => ?_)
    · refine r_iinc (lv' := [(0, _), (1, _), (2, _)]) C0 37 _ dX4_packsSold_37 rfl rfl rfl (by decide) rfl ?_
      refine r_goto C0 40 4 dX4_packsSold_40 (by decide) ?_
      have h9 := ih hlt
      rw [← nI_1 i] at h9
      rw [show sldN M (i + 1) = sldN M i + (if M 28 i = -9 then 0 else 1) from rfl, if_pos c_31] at h9
      simpa using h9
    · refine r_iinc (lv' := [(0, _), (1, _), (2, _)]) C0 34 _ dX4_packsSold_34 rfl rfl rfl (by decide) rfl ?_
      refine r_iinc (lv' := [(0, _), (1, _), (2, _)]) C0 37 _ dX4_packsSold_37 rfl rfl rfl (by decide) rfl ?_
      refine r_goto C0 40 4 dX4_packsSold_40 (by decide) ?_
      have h9 := ih hlt
      rw [← nI_1 i] at h9
      rw [show sldN M (i + 1) = sldN M i + (if M 28 i = -9 then 0 else 1) from rfl, if_neg c_31] at h9
      exact h9
set_option maxRecDepth 100000 in
theorem k_X4_packsHeld (hs : cHs a S M T) (pk : cPk te a v w P S M) (pa : cPa w P S M)  : Cn D ar (XC tg te mi) yX4_packsHeld cX4_packsHeld 3 (some .int) 3 64 0 0 [.ref (a 0)] (cW ar S) (fun r w9 => r = some (.int (hldN M P)) ∧ w9 = cW ar S) := by
  refine Cn.of (own := RX4) XC_ok (by decide) rfl (Nat.le_of_ble_eq_true rfl) (fun j C => ?_)
  have C0 := C.to
  show j _ 0 0 0 [(0, _)] []
  have hP6 := pk.1.1
  refine r_iconst C0 0 0 dX4_packsHeld_0 (by decide) ?_
  refine r_istore_n (lv' := [(0, _), (1, _)]) C0 1 1 dX4_packsHeld_1 rfl rfl (by decide) rfl ?_
  refine r_iconst C0 2 0 dX4_packsHeld_2 (by decide) ?_
  refine r_istore_n (lv' := [(0, _), (1, _), (2, _)]) C0 3 2 dX4_packsHeld_3 rfl rfl (by decide) rfl ?_
  refine loopUp (P := P) (f := fun i => j (cW ar S) 0 0 4 [(0, .ref (a 0)), (1, .int (hldN M i)), (2, .int (nI i))] []) (fun i hi ih => ?_) 0 (Nat.zero_le _)
  refine r_iload_n C0 4 2 dX4_packsHeld_4 rfl rfl ?_
  refine r_aload_n C0 5 0 dX4_packsHeld_5 rfl rfl ?_
  refine cgR_5 C0 6 hs.2.1.2.2.2.2.1 flX4_31 hs.1 dX4_packsHeld_6 ?_
  refine c_call (As := []) C0 9 0 (k_Jx4a65c_size_8abf5 XC_ok pk.2.1) (rm_Jx4a65c_size_8abf5 (by decide) (by decide) (Nat.le_refl _) (Nat.le_refl _)) mlX4_53 im_Jx4a65c_size_8abf5 se_Jx4a65c_size_8abf5 (by decide) rfl pk.2.1 rfl (Nat.le_of_ble_eq_true rfl) dX4_packsHeld_9 ?_
  rintro _ _ ⟨rfl, rfl⟩
  rw [pk.2.2.1]
  refine r_icmp_ge C0 12 41 dX4_packsHeld_12 (by decide) (fun c_12 => ?_) (fun c_12 => ?_)
  · have hge : P ≤ i := (nI_leI (by omega) (by omega)).mp c_12
    refine r_iload_n C0 41 1 dX4_packsHeld_41 rfl rfl ?_
    refine r_iret C 42 dX4_packsHeld_42 (Nat.le_refl _) (Nat.le_refl _) ?_
    have e : i = P := by omega
    subst e
    exact ⟨rfl, rfl⟩
  · have hlt : i < P := Nat.lt_of_not_le (fun q => c_12 (nI_le q (by omega)))
    refine r_aload_n C0 15 0 dX4_packsHeld_15 rfl rfl ?_
    refine cgR_5 C0 16 hs.2.1.2.2.2.2.1 flX4_31 hs.1 dX4_packsHeld_16 ?_
    refine r_iload_n C0 19 2 dX4_packsHeld_19 rfl rfl ?_
    refine c_call (As := [.int _]) C0 20 1 (k_Jx4a65c_get_915e3 XC_ok pk.2 hlt) (rm_Jx4a65c_get_915e3 (by decide) (by decide) (Nat.le_refl _) (Nat.le_refl _)) mlX4_137 im_Jx4a65c_get_915e3 se_Jx4a65c_get_915e3 (by decide) rfl pk.2.1 rfl (Nat.le_of_ble_eq_true rfl) dX4_packsHeld_20 ?_
    rintro _ _ ⟨rfl, rfl⟩
    refine ca_cast C0 23 (by decide) rfl clX4_89 (pa i hlt).1 dX4_packsHeld_23 ?_
    refine cgI_28 C0 26 flX4_151 (pa i hlt).1 dX4_packsHeld_26 ?_
    rw [(pa i hlt).2.2.2.2.2.2.2.2]
    refine r_if_eq C0 29 35 dX4_packsHeld_29 (by decide) (fun c_29 => ?_) (fun c_29 => ?_)
    · refine r_iinc (lv' := [(0, _), (1, _), (2, _)]) C0 35 _ dX4_packsHeld_35 rfl rfl rfl (by decide) rfl ?_
      refine r_goto C0 38 4 dX4_packsHeld_38 (by decide) ?_
      have h9 := ih hlt
      rw [← nI_1 i] at h9
      rw [show hldN M (i + 1) = hldN M i + (if M 29 i = 0 then 0 else 1) from rfl, if_pos c_29] at h9
      simpa using h9
    · refine r_iinc (lv' := [(0, _), (1, _), (2, _)]) C0 32 _ dX4_packsHeld_32 rfl rfl rfl (by decide) rfl ?_
      refine r_iinc (lv' := [(0, _), (1, _), (2, _)]) C0 35 _ dX4_packsHeld_35 rfl rfl rfl (by decide) rfl ?_
      refine r_goto C0 38 4 dX4_packsHeld_38 (by decide) ?_
      have h9 := ih hlt
      rw [← nI_1 i] at h9
      rw [show hldN M (i + 1) = hldN M i + (if M 29 i = 0 then 0 else 1) from rfl, if_neg c_29] at h9
      exact h9
set_option maxRecDepth 100000 in
theorem k_X4_told (hs : cHs a S M T) (pk : cPk te a v w P S M) (pa : cPa w P S M) (od : cOr te a v w O S M) (wh : Int32)  : Cn D ar (XC tg te mi) yX4_told cX4_told 2 (some .int) 4 86 0 0 [.ref (a 0), .int wh] (cW ar S) (fun r w9 => r = some (.int (tldA M P wh)) ∧ w9 = cW ar S) := by
  refine Cn.of (own := RX4) XC_ok (by decide) rfl (Nat.le_of_ble_eq_true rfl) (fun j C => ?_)
  have C0 := C.to
  show j _ 0 0 0 [(0, _), (1, _)] []
  refine r_iload_n C0 0 1 dX4_told_0 rfl rfl ?_
  rcases swc 6 (by decide) wh with ⟨i, hi, rfl⟩ | ho
  · rcases (show i = 0 ∨ i = 1 ∨ i = 2 ∨ i = 3 ∨ i = 4 ∨ i = 5 by omega) with rfl | rfl | rfl | rfl | rfl | rfl
    · refine r_tableIn C0 1 40 dX4_told_1 (by decide) (by decide) rfl (by decide) ?_
      refine r_aload_n C0 40 0 dX4_told_40 rfl rfl ?_
      refine cgR_5 C0 41 hs.2.1.2.2.2.2.1 flX4_31 hs.1 dX4_told_41 ?_
      refine c_call (As := []) C0 44 0 (k_Jx4a65c_size_8abf5 XC_ok pk.2.1) (rm_Jx4a65c_size_8abf5 (by decide) (by decide) (Nat.le_refl _) (Nat.le_refl _)) mlX4_53 im_Jx4a65c_size_8abf5 se_Jx4a65c_size_8abf5 (by decide) rfl pk.2.1 rfl (Nat.le_of_ble_eq_true rfl) dX4_told_44 ?_
      rintro _ _ ⟨rfl, rfl⟩
      refine r_iret C 47 dX4_told_47 (Nat.le_refl _) (Nat.le_refl _) ?_
      exact ⟨by rw [pk.2.2.1, ← pk.1.2]; rfl, rfl⟩
    · refine r_tableIn C0 1 48 dX4_told_1 (by decide) (by decide) rfl (by decide) ?_
      refine r_aload_n C0 48 0 dX4_told_48 rfl rfl ?_
      refine cgR_6 C0 49 hs.2.1.2.2.2.2.2.1 flX4_34 hs.1 dX4_told_49 ?_
      refine c_call (As := []) C0 52 0 (k_Jx4a65c_size_8abf5 XC_ok od.2.1) (rm_Jx4a65c_size_8abf5 (by decide) (by decide) (Nat.le_refl _) (Nat.le_refl _)) mlX4_53 im_Jx4a65c_size_8abf5 se_Jx4a65c_size_8abf5 (by decide) rfl od.2.1 rfl (Nat.le_of_ble_eq_true rfl) dX4_told_52 ?_
      rintro _ _ ⟨rfl, rfl⟩
      refine r_iret C 55 dX4_told_55 (Nat.le_refl _) (Nat.le_refl _) ?_
      exact ⟨by rw [od.2.2.1, ← od.1.2]; rfl, rfl⟩
    · refine r_tableIn C0 1 56 dX4_told_1 (by decide) (by decide) rfl (by decide) ?_
      refine r_aload_n C0 56 0 dX4_told_56 rfl rfl ?_
      refine c_call (As := []) C0 57 0 (k_X4_packsSold hs pk pa) (rm_X4_packsSold (by decide) (by decide) (Nat.le_refl _) (Nat.le_refl _)) mlX4_195 im_X4_packsSold se_X4_packsSold (by decide) rfl hs.1 rfl (Nat.le_of_ble_eq_true rfl) dX4_told_57 ?_
      rintro _ _ ⟨rfl, rfl⟩
      refine r_iret C 60 dX4_told_60 (Nat.le_refl _) (Nat.le_refl _) ?_
      exact ⟨rfl, rfl⟩
    · refine r_tableIn C0 1 61 dX4_told_1 (by decide) (by decide) rfl (by decide) ?_
      refine r_aload_n C0 61 0 dX4_told_61 rfl rfl ?_
      refine c_call (As := []) C0 62 0 (k_X4_packsHeld hs pk pa) (rm_X4_packsHeld (by decide) (by decide) (Nat.le_refl _) (Nat.le_refl _)) mlX4_198 im_X4_packsHeld se_X4_packsHeld (by decide) rfl hs.1 rfl (Nat.le_of_ble_eq_true rfl) dX4_told_62 ?_
      rintro _ _ ⟨rfl, rfl⟩
      refine r_iret C 65 dX4_told_65 (Nat.le_refl _) (Nat.le_refl _) ?_
      exact ⟨rfl, rfl⟩
    · refine r_tableIn C0 1 66 dX4_told_1 (by decide) (by decide) rfl (by decide) ?_
      refine r_aload_n C0 66 0 dX4_told_66 rfl rfl ?_
      refine cgI_40 C0 67 flX4_71 hs.1 dX4_told_67 ?_
      refine r_iret C 70 dX4_told_70 (Nat.le_refl _) (Nat.le_refl _) ?_
      exact ⟨by rw [hs.2.2.1]; rfl, rfl⟩
    · refine r_tableIn C0 1 71 dX4_told_1 (by decide) (by decide) rfl (by decide) ?_
      refine r_aload_n C0 71 0 dX4_told_71 rfl rfl ?_
      refine cgI_41 C0 72 flX4_75 hs.1 dX4_told_72 ?_
      refine r_iret C 75 dX4_told_75 (Nat.le_refl _) (Nat.le_refl _) ?_
      exact ⟨by rw [hs.2.2.2.1]; rfl, rfl⟩
  · refine r_tableOut C0 1 76 dX4_told_1 ho (by decide) ?_
    refine r_sipush C0 76 (-1000) dX4_told_76 (by decide) ?_
    refine r_iret C 79 dX4_told_79 (Nat.le_refl _) (Nat.le_refl _) ?_
    exact ⟨by simp [tldA, swn ho (c := 0) (by decide), swn ho (c := 1) (by decide), swn ho (c := 2) (by decide), swn ho (c := 3) (by decide), swn ho (c := 4) (by decide), swn ho (c := 5) (by decide)], rfl⟩
theorem ifo_fr1 {w : Nat → Nat → Nat} {P : Nat} {S : CS} {M : Nat → Nat → Int32} (pa : cPa w P S M) {i : Nat} (hi : i < P) (g : Int32) : ifoN S (w 1 i) g = fr1 M g i := by
  obtain ⟨-, d2, -, -, -, -, -, d8, d9⟩ := pa i hi
  unfold ifoN fr1 isFr
  rw [d2, d8, d9]
  by_cases h1 : M 22 i = g <;> by_cases h2 : M 28 i = -9 <;> by_cases h3 : M 29 i = 0 <;> simp [h1, h2, h3]
theorem fr1_01 {M : Nat → Nat → Int32} {g : Int32} {i : Nat} (h : ¬ fr1 M g i = 0) : fr1 M g i = 1 := by
  unfold fr1 at *
  split at h
  · split at h
    · exact absurd rfl h
    · rename_i h1 h2; rw [if_pos h1, if_neg h2]
  · exact absurd rfl h
set_option maxRecDepth 100000 in
theorem k_X4_free (hs : cHs a S M T) (pk : cPk te a v w P S M) (pa : cPa w P S M) (g : Int32)  : Cn D ar (XC tg te mi) yX4_free cX4_free 4 (some .int) 3 64 0 0 [.ref (a 0), .int g] (cW ar S) (fun r w9 => r = some (.int (freeA M P g)) ∧ w9 = cW ar S) := by
  refine Cn.of (own := RX4) XC_ok (by decide) rfl (Nat.le_of_ble_eq_true rfl) (fun j C => ?_)
  have C0 := C.to
  show j _ 0 0 0 [(0, _), (1, _)] []
  have hP6 := pk.1.1
  refine r_iload_n C0 0 1 dX4_free_0 rfl rfl ?_
  refine s_call (As := [.int _]) C0 1 1 (k_X4_isGrade XC_ok _ _) (rm_X4_isGrade (by decide) (by decide) (Nat.le_refl _) (Nat.le_refl _)) mlX4_81 st_X4_isGrade rfl (Nat.le_of_ble_eq_true rfl) dX4_free_1 ?_
  rintro _ _ ⟨rfl, rfl⟩
  refine r_if_ne C0 4 9 dX4_free_4 (by decide) (fun c_4 => ?_) (fun c_4 => ?_)
  · refine r_iconst C0 9 0 dX4_free_9 (by decide) ?_
    refine r_istore_n (lv' := [(0, _), (1, _), (2, _)]) C0 10 2 dX4_free_10 rfl rfl (by decide) rfl ?_
    refine r_iconst C0 11 0 dX4_free_11 (by decide) ?_
    refine r_istore_n (lv' := [(0, _), (1, _), (2, _), (3, _)]) C0 12 3 dX4_free_12 rfl rfl (by decide) rfl ?_
    refine loopUp (P := P) (f := fun i => j (cW ar S) 0 0 13 [(0, .ref (a 0)), (1, .int g), (2, .int (freeN M g i)), (3, .int (nI i))] []) (fun i hi ih => ?_) 0 (Nat.zero_le _)
    refine r_iload_n C0 13 3 dX4_free_13 rfl rfl ?_
    refine r_aload_n C0 14 0 dX4_free_14 rfl rfl ?_
    refine cgR_5 C0 15 hs.2.1.2.2.2.2.1 flX4_31 hs.1 dX4_free_15 ?_
    refine c_call (As := []) C0 18 0 (k_Jx4a65c_size_8abf5 XC_ok pk.2.1) (rm_Jx4a65c_size_8abf5 (by decide) (by decide) (Nat.le_refl _) (Nat.le_refl _)) mlX4_53 im_Jx4a65c_size_8abf5 se_Jx4a65c_size_8abf5 (by decide) rfl pk.2.1 rfl (Nat.le_of_ble_eq_true rfl) dX4_free_18 ?_
    rintro _ _ ⟨rfl, rfl⟩
    rw [pk.2.2.1]
    refine r_icmp_ge C0 21 51 dX4_free_21 (by decide) (fun c_21 => ?_) (fun c_21 => ?_)
    · have hge : P ≤ i := (nI_leI (by omega) (by omega)).mp c_21
      refine r_iload_n C0 51 2 dX4_free_51 rfl rfl ?_
      refine r_iret C 52 dX4_free_52 (Nat.le_refl _) (Nat.le_refl _) ?_
      have e : i = P := by omega
      subst e
      exact ⟨by simp only [freeA, eq_false c_4]; rfl, rfl⟩
    · have hlt : i < P := Nat.lt_of_not_le (fun q => c_21 (nI_le q (by omega)))
      refine r_aload_n C0 24 0 dX4_free_24 rfl rfl ?_
      refine cgR_5 C0 25 hs.2.1.2.2.2.2.1 flX4_31 hs.1 dX4_free_25 ?_
      refine r_iload_n C0 28 3 dX4_free_28 rfl rfl ?_
      refine c_call (As := [.int _]) C0 29 1 (k_Jx4a65c_get_915e3 XC_ok pk.2 hlt) (rm_Jx4a65c_get_915e3 (by decide) (by decide) (Nat.le_refl _) (Nat.le_refl _)) mlX4_137 im_Jx4a65c_get_915e3 se_Jx4a65c_get_915e3 (by decide) rfl pk.2.1 rfl (Nat.le_of_ble_eq_true rfl) dX4_free_29 ?_
      rintro _ _ ⟨rfl, rfl⟩
      refine ca_cast C0 32 (by decide) rfl clX4_89 (pa i hlt).1 dX4_free_32 ?_
      refine r_iload_n C0 35 1 dX4_free_35 rfl rfl ?_
      refine c_call (As := [.int _]) C0 36 1 (k_X2_isFreeOf XC_ok (pa i hlt).1 _) (rm_X2_isFreeOf (by decide) (by decide) (Nat.le_refl _) (Nat.le_refl _)) mlX4_160 im_X2_isFreeOf se_X2_isFreeOf (by decide) rfl (pa i hlt).1 rfl (Nat.le_of_ble_eq_true rfl) dX4_free_36 ?_
      rintro _ _ ⟨rfl, rfl⟩
      rw [ifo_fr1 pa hlt]
      refine r_if_eq C0 39 45 dX4_free_39 (by decide) (fun c_39 => ?_) (fun c_39 => ?_)
      · refine r_iinc (lv' := [(0, _), (1, _), (2, _), (3, _)]) C0 45 _ dX4_free_45 rfl rfl rfl (by decide) rfl ?_
        refine r_goto C0 48 13 dX4_free_48 (by decide) ?_
        have h9 := ih hlt
        rw [← nI_1 i] at h9
        rw [show freeN M g (i + 1) = freeN M g i + fr1 M g i from rfl, c_39] at h9
        simpa using h9
      · refine r_iinc (lv' := [(0, _), (1, _), (2, _), (3, _)]) C0 42 _ dX4_free_42 rfl rfl rfl (by decide) rfl ?_
        refine r_iinc (lv' := [(0, _), (1, _), (2, _), (3, _)]) C0 45 _ dX4_free_45 rfl rfl rfl (by decide) rfl ?_
        refine r_goto C0 48 13 dX4_free_48 (by decide) ?_
        have h9 := ih hlt
        rw [← nI_1 i] at h9
        rw [show freeN M g (i + 1) = freeN M g i + fr1 M g i from rfl, fr1_01 c_39] at h9
        exact h9
  · refine r_iconst C0 7 (-1) dX4_free_7 (by decide) ?_
    refine r_iret C 8 dX4_free_8 (Nat.le_refl _) (Nat.le_refl _) ?_
    exact ⟨by simp [freeA, eq_true c_4], rfl⟩
theorem rowN_0 {M : Nat → Nat → Int32} : rowN M 0 4 = 0 + M 15 16 + M 15 17 + M 15 18 + M 15 19 := rfl
theorem rowN_k {M : Nat → Nat → Int32} {k : Nat} (hk : k < 4) : rowN M (k + 1) 4 = allN M (4 * k) := by
  unfold allN
  show 0 + row1 M 0 (k + 1) + row1 M 1 (k + 1) + row1 M 2 (k + 1) + row1 M 3 (k + 1) = _
  unfold row1
  simp
theorem tryN_4 {M : Nat → Nat → Int32} : tryN M 4 = M 19 0 + M 19 1 + M 19 2 + M 19 3 := by
  show 0 + M 19 0 + M 19 1 + M 19 2 + M 19 3 = _
  simp
/-- the sum of what came from the barns is the number of eggs -/
def CameOK (M : Nat → Nat → Int32) : Prop := rowN M 0 4 = M 0 0
set_option maxRecDepth 100000 in
theorem k_X4_count (hs : cHs a S M T) (qu : cQu te a v w Q S M) (wa : cWa te a v w W S M) (pk : cPk te a v w P S M) (ln : cLn a w S M) (pr : cPr a w S M) (tr : cTr w S M) (bb : cBb a S M) (li : LiOK M E) (hE : E ≤ 600) (cm : CameOK M) (wh : Int32)  : Cn D ar (XC tg te mi) yX4_count cX4_count 2 (some .int) 1 23 0 0 [.ref (a 0), .int wh] (cW ar S) (fun r w9 => r = some (.int (cntA M wh)) ∧ w9 = cW ar S) := by
  refine Cn.of (own := RX4) XC_ok (by decide) rfl (Nat.le_of_ble_eq_true rfl) (fun j C => ?_)
  have C0 := C.to
  show j _ 0 0 0 [(0, _), (1, _)] []
  refine r_iload_n C0 0 1 dX4_count_0 rfl rfl ?_
  rcases swc 10 (by decide) wh with ⟨i, hi, rfl⟩ | ho
  · rcases (show i = 0 ∨ i = 1 ∨ i = 2 ∨ i = 3 ∨ i = 4 ∨ i = 5 ∨ i = 6 ∨ i = 7 ∨ i = 8 ∨ i = 9 by omega) with rfl | rfl | rfl | rfl | rfl | rfl | rfl | rfl | rfl | rfl
    · refine r_tableIn C0 1 56 dX4_count_1 (by decide) (by decide) rfl (by decide) ?_
      refine r_aload_n C0 56 0 dX4_count_56 rfl rfl ?_
      refine r_iconst C0 57 0 dX4_count_57 (by decide) ?_
      refine c_call (As := [.int _]) C0 58 1 (k_X4_ofAllBarns (k := 0) hs bb (by decide)) (rm_X4_ofAllBarns (by decide) (by decide) (Nat.le_refl _) (Nat.le_refl _)) mlX4_57 im_X4_ofAllBarns se_X4_ofAllBarns (by decide) rfl hs.1 rfl (Nat.le_of_ble_eq_true rfl) dX4_count_58 ?_
      rintro _ _ ⟨rfl, rfl⟩
      refine r_iret C 61 dX4_count_61 (Nat.le_refl _) (Nat.le_refl _) ?_
      exact ⟨by rw [cm]; rfl, rfl⟩
    · refine r_tableIn C0 1 62 dX4_count_1 (by decide) (by decide) rfl (by decide) ?_
      refine r_aload_n C0 62 0 dX4_count_62 rfl rfl ?_
      refine cgR_1 C0 63 hs.2.1.1 flX4_10 hs.1 dX4_count_63 ?_
      refine c_call (As := []) C0 66 0 (k_Jx4a65c_size_8abf5 XC_ok qu.2.1) (rm_Jx4a65c_size_8abf5 (by decide) (by decide) (Nat.le_refl _) (Nat.le_refl _)) mlX4_53 im_Jx4a65c_size_8abf5 se_Jx4a65c_size_8abf5 (by decide) rfl qu.2.1 rfl (Nat.le_of_ble_eq_true rfl) dX4_count_66 ?_
      rintro _ _ ⟨rfl, rfl⟩
      refine r_iret C 69 dX4_count_69 (Nat.le_refl _) (Nat.le_refl _) ?_
      exact ⟨by rw [qu.2.2.1, ← qu.1.2]; rfl, rfl⟩
    · refine r_tableIn C0 1 70 dX4_count_1 (by decide) (by decide) rfl (by decide) ?_
      refine r_aload_n C0 70 0 dX4_count_70 rfl rfl ?_
      refine c_call (As := []) C0 71 0 (k_X4_eggsOnLine hs ln li hE) (rm_X4_eggsOnLine (by decide) (by decide) (Nat.le_refl _) (Nat.le_refl _)) mlX4_125 im_X4_eggsOnLine se_X4_eggsOnLine (by decide) rfl hs.1 rfl (Nat.le_of_ble_eq_true rfl) dX4_count_71 ?_
      rintro _ _ ⟨rfl, rfl⟩
      refine r_iret C 74 dX4_count_74 (Nat.le_refl _) (Nat.le_refl _) ?_
      exact ⟨rfl, rfl⟩
    · refine r_tableIn C0 1 75 dX4_count_1 (by decide) (by decide) rfl (by decide) ?_
      refine r_aload_n C0 75 0 dX4_count_75 rfl rfl ?_
      refine cgR_2 C0 76 hs.2.1.2.1 flX4_16 hs.1 dX4_count_76 ?_
      refine c_call (As := []) C0 79 0 (k_Jx4a65c_size_8abf5 XC_ok wa.2.1.1) (rm_Jx4a65c_size_8abf5 (by decide) (by decide) (Nat.le_refl _) (Nat.le_refl _)) mlX4_53 im_Jx4a65c_size_8abf5 se_Jx4a65c_size_8abf5 (by decide) rfl wa.2.1.1 rfl (Nat.le_of_ble_eq_true rfl) dX4_count_79 ?_
      rintro _ _ ⟨rfl, rfl⟩
      refine r_iret C 82 dX4_count_82 (Nat.le_refl _) (Nat.le_refl _) ?_
      exact ⟨by rw [wa.2.1.2.1, ← wa.1.2]; rfl, rfl⟩
    · refine r_tableIn C0 1 83 dX4_count_1 (by decide) (by decide) rfl (by decide) ?_
      refine r_aload_n C0 83 0 dX4_count_83 rfl rfl ?_
      refine r_iconst C0 84 1 dX4_count_84 (by decide) ?_
      refine c_call (As := [.int _]) C0 85 1 (k_X4_ofAllBarns (k := 1) hs bb (by decide)) (rm_X4_ofAllBarns (by decide) (by decide) (Nat.le_refl _) (Nat.le_refl _)) mlX4_57 im_X4_ofAllBarns se_X4_ofAllBarns (by decide) rfl hs.1 rfl (Nat.le_of_ble_eq_true rfl) dX4_count_85 ?_
      rintro _ _ ⟨rfl, rfl⟩
      refine r_iret C 88 dX4_count_88 (Nat.le_refl _) (Nat.le_refl _) ?_
      exact ⟨by rw [rowN_k (k := 0) (by decide)]; rfl, rfl⟩
    · refine r_tableIn C0 1 89 dX4_count_1 (by decide) (by decide) rfl (by decide) ?_
      refine r_aload_n C0 89 0 dX4_count_89 rfl rfl ?_
      refine r_iconst C0 90 2 dX4_count_90 (by decide) ?_
      refine c_call (As := [.int _]) C0 91 1 (k_X4_ofAllBarns (k := 2) hs bb (by decide)) (rm_X4_ofAllBarns (by decide) (by decide) (Nat.le_refl _) (Nat.le_refl _)) mlX4_57 im_X4_ofAllBarns se_X4_ofAllBarns (by decide) rfl hs.1 rfl (Nat.le_of_ble_eq_true rfl) dX4_count_91 ?_
      rintro _ _ ⟨rfl, rfl⟩
      refine r_iret C 94 dX4_count_94 (Nat.le_refl _) (Nat.le_refl _) ?_
      exact ⟨by rw [rowN_k (k := 1) (by decide)]; rfl, rfl⟩
    · refine r_tableIn C0 1 95 dX4_count_1 (by decide) (by decide) rfl (by decide) ?_
      refine r_aload_n C0 95 0 dX4_count_95 rfl rfl ?_
      refine r_iconst C0 96 3 dX4_count_96 (by decide) ?_
      refine c_call (As := [.int _]) C0 97 1 (k_X4_ofAllBarns (k := 3) hs bb (by decide)) (rm_X4_ofAllBarns (by decide) (by decide) (Nat.le_refl _) (Nat.le_refl _)) mlX4_57 im_X4_ofAllBarns se_X4_ofAllBarns (by decide) rfl hs.1 rfl (Nat.le_of_ble_eq_true rfl) dX4_count_97 ?_
      rintro _ _ ⟨rfl, rfl⟩
      refine r_iret C 100 dX4_count_100 (Nat.le_refl _) (Nat.le_refl _) ?_
      exact ⟨by rw [rowN_k (k := 2) (by decide)]; rfl, rfl⟩
    · refine r_tableIn C0 1 101 dX4_count_1 (by decide) (by decide) rfl (by decide) ?_
      refine r_aload_n C0 101 0 dX4_count_101 rfl rfl ?_
      refine c_call (As := []) C0 102 0 (k_X4_eggsInTrays hs pr tr) (rm_X4_eggsInTrays (by decide) (by decide) (Nat.le_refl _) (Nat.le_refl _)) mlX4_128 im_X4_eggsInTrays se_X4_eggsInTrays (by decide) rfl hs.1 rfl (Nat.le_of_ble_eq_true rfl) dX4_count_102 ?_
      rintro _ _ ⟨rfl, rfl⟩
      refine r_iret C 105 dX4_count_105 (Nat.le_refl _) (Nat.le_refl _) ?_
      exact ⟨by rw [tryN_4]; rfl, rfl⟩
    · refine r_tableIn C0 1 106 dX4_count_1 (by decide) (by decide) rfl (by decide) ?_
      refine r_aload_n C0 106 0 dX4_count_106 rfl rfl ?_
      refine cgR_5 C0 107 hs.2.1.2.2.2.2.1 flX4_31 hs.1 dX4_count_107 ?_
      refine c_call (As := []) C0 110 0 (k_Jx4a65c_size_8abf5 XC_ok pk.2.1) (rm_Jx4a65c_size_8abf5 (by decide) (by decide) (Nat.le_refl _) (Nat.le_refl _)) mlX4_53 im_Jx4a65c_size_8abf5 se_Jx4a65c_size_8abf5 (by decide) rfl pk.2.1 rfl (Nat.le_of_ble_eq_true rfl) dX4_count_110 ?_
      rintro _ _ ⟨rfl, rfl⟩
      refine r_bipush C0 113 6 dX4_count_113 (by decide) ?_
      refine r_imul C0 115 dX4_count_115 ?_
      refine r_iret C 116 dX4_count_116 (Nat.le_refl _) (Nat.le_refl _) ?_
      exact ⟨by rw [pk.2.2.1, ← pk.1.2, Int32.mul_comm]; rfl, rfl⟩
    · refine r_tableIn C0 1 117 dX4_count_1 (by decide) (by decide) rfl (by decide) ?_
      refine r_aload_n C0 117 0 dX4_count_117 rfl rfl ?_
      refine cgI_42 C0 118 flX4_131 hs.1 dX4_count_118 ?_
      refine r_iret C 121 dX4_count_121 (Nat.le_refl _) (Nat.le_refl _) ?_
      exact ⟨by rw [hs.2.2.2.2.1]; rfl, rfl⟩
  · refine r_tableOut C0 1 122 dX4_count_1 ho (by decide) ?_
    refine r_iconst C0 122 (-1) dX4_count_122 (by decide) ?_
    refine r_iret C 123 dX4_count_123 (Nat.le_refl _) (Nat.le_refl _) ?_
    exact ⟨by simp [cntA, swn ho (c := 0) (by decide), swn ho (c := 1) (by decide), swn ho (c := 2) (by decide), swn ho (c := 3) (by decide), swn ho (c := 4) (by decide), swn ho (c := 5) (by decide), swn ho (c := 6) (by decide), swn ho (c := 7) (by decide), swn ho (c := 8) (by decide), swn ho (c := 9) (by decide)], rfl⟩
set_option maxRecDepth 100000 in
theorem k_X4_at (hs : cHs a S M T) (ln : cLn a w S M) (eg : cEg w E S M) (ok : OKM M E) (hE : E ≤ 600) (pl wh : Int32)  : Cn D ar (XC tg te mi) yX4_at cX4_at 5 (some .int) 1 22 0 0 [.ref (a 0), .int pl, .int wh] (cW ar S) (fun r w9 => r = some (.int (atA M pl wh)) ∧ w9 = cW ar S) := by
  refine Cn.of (own := RX4) XC_ok (by decide) rfl (Nat.le_of_ble_eq_true rfl) (fun j C => ?_)
  have C0 := C.to
  show j _ 0 0 0 [(0, _), (1, _), (2, _)] []
  refine r_iload_n C0 0 1 dX4_at_0 rfl rfl ?_
  refine r_iconst C0 1 0 dX4_at_1 (by decide) ?_
  refine r_bipush C0 2 15 dX4_at_2 (by decide) ?_
  refine s_call (As := [.int _, .int _, .int _]) C0 4 3 (k_X4_isWithin XC_ok _ _ _ _) (rm_X4_isWithin (by decide) (by decide) (Nat.le_refl _) (Nat.le_refl _)) mlX4_49 st_X4_isWithin rfl (Nat.le_of_ble_eq_true rfl) dX4_at_4 ?_
  rintro _ _ ⟨rfl, rfl⟩
  refine r_if_eq C0 7 19 dX4_at_7 (by decide) (fun c_7 => ?_) (fun c_7 => ?_)
  · refine r_iconst C0 19 (-1) dX4_at_19 (by decide) ?_
    refine r_iret C 20 dX4_at_20 (Nat.le_refl _) (Nat.le_refl _) ?_
    exact ⟨by simp [atA, eq_true c_7], rfl⟩
  · refine r_iload_n C0 10 2 dX4_at_10 rfl rfl ?_
    refine r_iconst C0 11 0 dX4_at_11 (by decide) ?_
    refine r_iconst C0 12 4 dX4_at_12 (by decide) ?_
    refine s_call (As := [.int _, .int _, .int _]) C0 13 3 (k_X4_isWithin XC_ok _ _ _ _) (rm_X4_isWithin (by decide) (by decide) (Nat.le_refl _) (Nat.le_refl _)) mlX4_49 st_X4_isWithin rfl (Nat.le_of_ble_eq_true rfl) dX4_at_13 ?_
    rintro _ _ ⟨rfl, rfl⟩
    refine r_if_ne C0 16 21 dX4_at_16 (by decide) (fun c_16 => ?_) (fun c_16 => ?_)
    · obtain ⟨x, hx, rfl⟩ := inR_x (n := 15) rfl c_7
      have hcl : (nI x).toNatClampNeg = x := nI_clamp (by omega)
      by_cases h0 : M 10 x = 0
      · have hno : ¬ 0 ≤ M 10 x - 1 := by rw [h0]; decide
        refine r_aload_n C0 21 0 dX4_at_21 rfl rfl ?_
        refine cgR_3 C0 22 hs.2.1.2.2.1 flX4_21 hs.1 dX4_at_22 ?_
        refine r_iload_n C0 25 1 dX4_at_25 rfl rfl ?_
        refine ca_ald C0 26 x (by decide) ln.1 rfl (by rw [ln.2.1]; omega) (by rw [ln.2.1]; decide) (by rw [ln.2.2 x (by omega), if_pos h0]) dX4_at_26 ?_
        refine r_astore_nN (lv' := [(0, _), (1, _), (2, _), (3, _)]) C0 27 3 dX4_at_27 rfl rfl (by decide) rfl ?_
        refine r_aload_nN C0 28 3 dX4_at_28 rfl rfl ?_
        refine r_ifnonnullN C0 29 dX4_at_29 ?_
        refine r_bipush C0 32 (-9) dX4_at_32 (by decide) ?_
        refine r_iret C 34 dX4_at_34 (Nat.le_refl _) (Nat.le_refl _) ?_
        exact ⟨by simp only [atA, hcl, eq_false c_7, eq_false c_16, eq_false hno]; rfl, rfl⟩
      · have hyes : 0 ≤ M 10 x - 1 := by
          obtain ⟨y, hy, e⟩ := ok.2.1 x (by omega)
          exact (nI_prn e (by omega)).mpr (Nat.pos_of_ne_zero (fun z => h0 (by rw [e, z]; rfl)))
        obtain ⟨heE, hve⟩ := ok.egg hE (k := x) (by omega) (Int32.not_lt.mpr hyes)
        have d := eg (eN M x) heE
        refine r_aload_n C0 21 0 dX4_at_21 rfl rfl ?_
        refine cgR_3 C0 22 hs.2.1.2.2.1 flX4_21 hs.1 dX4_at_22 ?_
        refine r_iload_n C0 25 1 dX4_at_25 rfl rfl ?_
        refine ca_ald C0 26 x (by decide) ln.1 rfl (by rw [ln.2.1]; omega) (by rw [ln.2.1]; decide) (by rw [ln.2.2 x (by omega), if_neg h0]) dX4_at_26 ?_
        refine r_astore_n (lv' := [(0, _), (1, _), (2, _), (3, _)]) C0 27 3 dX4_at_27 rfl rfl (by decide) rfl ?_
        refine r_aload_n C0 28 3 dX4_at_28 rfl rfl ?_
        refine r_ifnonnull C0 29 35 dX4_at_29 (by decide) ?_
        refine r_iload_n C0 35 1 dX4_at_35 rfl rfl ?_
        refine r_iconst C0 36 2 dX4_at_36 (by decide) ?_
        refine r_icmp_lt C0 37 44 dX4_at_37 (by decide) (fun c_37 => ?_) (fun c_37 => ?_)
        · refine r_iconst C0 44 0 dX4_at_44 (by decide) ?_
          refine r_istore (lv' := [(0, _), (1, _), (2, _), (3, _), (4, _)]) C0 45 dX4_at_45 rfl (by decide) rfl ?_
          refine r_iload_n C0 47 2 dX4_at_47 rfl rfl ?_
          rcases swc 4 (by decide) wh with ⟨i, hi, rfl⟩ | ho
          · rcases (show i = 0 ∨ i = 1 ∨ i = 2 ∨ i = 3 by omega) with rfl | rfl | rfl | rfl
            · refine r_tableIn C0 48 80 dX4_at_48 (by decide) (by decide) rfl (by decide) ?_
              refine r_aload_n C0 80 3 dX4_at_80 rfl rfl ?_
              refine cgI_0 C0 81 flX4_104 d.1 dX4_at_81 ?_
              refine r_iret C 84 dX4_at_84 (Nat.le_refl _) (Nat.le_refl _) ?_
              exact ⟨by rw [d.2.1, ← hve]; simp only [atA, hcl, eq_false c_7, eq_false c_16, eq_true hyes]; rfl, rfl⟩
            · refine r_tableIn C0 48 85 dX4_at_48 (by decide) (by decide) rfl (by decide) ?_
              refine r_aload_n C0 85 3 dX4_at_85 rfl rfl ?_
              refine cgI_1 C0 86 flX4_107 d.1 dX4_at_86 ?_
              refine r_iret C 89 dX4_at_89 (Nat.le_refl _) (Nat.le_refl _) ?_
              exact ⟨by rw [d.2.2.1]; simp only [atA, hcl, eq_false c_7, eq_false c_16, eq_true hyes]; rfl, rfl⟩
            · refine r_tableIn C0 48 90 dX4_at_48 (by decide) (by decide) rfl (by decide) ?_
              refine r_aload_n C0 90 3 dX4_at_90 rfl rfl ?_
              refine cgI_2 C0 91 flX4_110 d.1 dX4_at_91 ?_
              refine r_iret C 94 dX4_at_94 (Nat.le_refl _) (Nat.le_refl _) ?_
              exact ⟨by rw [d.2.2.2.1]; simp only [atA, hcl, eq_false c_7, eq_false c_16, eq_true hyes]; rfl, rfl⟩
            · refine r_tableIn C0 48 95 dX4_at_48 (by decide) (by decide) rfl (by decide) ?_
              refine r_iload C0 95 dX4_at_95 rfl ?_
              refine r_if_eq C0 97 107 dX4_at_97 (by decide) (fun c_97 => ?_) (fun c_97 => ?_)
              · refine r_iconst C0 107 0 dX4_at_107 (by decide) ?_
                refine r_iret C 108 dX4_at_108 (Nat.le_refl _) (Nat.le_refl _) ?_
                exact ⟨by simp only [atA, hcl, eq_false c_7, eq_false c_16, eq_true hyes, eq_false (Int32.not_le.mpr c_37)]; rfl, rfl⟩
              · exact absurd rfl c_97
          · refine r_tableOut C0 48 109 dX4_at_48 ho (by decide) ?_
            refine r_iload C0 109 dX4_at_109 rfl ?_
            refine r_if_eq C0 111 124 dX4_at_111 (by decide) (fun c_111 => ?_) (fun c_111 => ?_)
            · refine r_bipush C0 124 (-9) dX4_at_124 (by decide) ?_
              refine r_iret C 126 dX4_at_126 (Nat.le_refl _) (Nat.le_refl _) ?_
              exact ⟨by simp [atA, hcl, eq_false c_7, eq_false c_16, eq_true hyes, eq_false (Int32.not_le.mpr c_37), swn ho (c := 0) (by decide), swn ho (c := 1) (by decide), swn ho (c := 2) (by decide), swn ho (c := 3) (by decide)], rfl⟩
            · exact absurd rfl c_111
        · refine r_iconst C0 40 1 dX4_at_40 (by decide) ?_
          refine r_goto C0 41 45 dX4_at_41 (by decide) ?_
          refine r_istore (lv' := [(0, _), (1, _), (2, _), (3, _), (4, _)]) C0 45 dX4_at_45 rfl (by decide) rfl ?_
          refine r_iload_n C0 47 2 dX4_at_47 rfl rfl ?_
          rcases swc 4 (by decide) wh with ⟨i, hi, rfl⟩ | ho
          · rcases (show i = 0 ∨ i = 1 ∨ i = 2 ∨ i = 3 by omega) with rfl | rfl | rfl | rfl
            · refine r_tableIn C0 48 80 dX4_at_48 (by decide) (by decide) rfl (by decide) ?_
              refine r_aload_n C0 80 3 dX4_at_80 rfl rfl ?_
              refine cgI_0 C0 81 flX4_104 d.1 dX4_at_81 ?_
              refine r_iret C 84 dX4_at_84 (Nat.le_refl _) (Nat.le_refl _) ?_
              exact ⟨by rw [d.2.1, ← hve]; simp only [atA, hcl, eq_false c_7, eq_false c_16, eq_true hyes]; rfl, rfl⟩
            · refine r_tableIn C0 48 85 dX4_at_48 (by decide) (by decide) rfl (by decide) ?_
              refine r_aload_n C0 85 3 dX4_at_85 rfl rfl ?_
              refine cgI_1 C0 86 flX4_107 d.1 dX4_at_86 ?_
              refine r_iret C 89 dX4_at_89 (Nat.le_refl _) (Nat.le_refl _) ?_
              exact ⟨by rw [d.2.2.1]; simp only [atA, hcl, eq_false c_7, eq_false c_16, eq_true hyes]; rfl, rfl⟩
            · refine r_tableIn C0 48 90 dX4_at_48 (by decide) (by decide) rfl (by decide) ?_
              refine r_aload_n C0 90 3 dX4_at_90 rfl rfl ?_
              refine cgI_2 C0 91 flX4_110 d.1 dX4_at_91 ?_
              refine r_iret C 94 dX4_at_94 (Nat.le_refl _) (Nat.le_refl _) ?_
              exact ⟨by rw [d.2.2.2.1]; simp only [atA, hcl, eq_false c_7, eq_false c_16, eq_true hyes]; rfl, rfl⟩
            · refine r_tableIn C0 48 95 dX4_at_48 (by decide) (by decide) rfl (by decide) ?_
              refine r_iload C0 95 dX4_at_95 rfl ?_
              refine r_if_eq C0 97 107 dX4_at_97 (by decide) (fun c_97 => ?_) (fun c_97 => ?_)
              · exact absurd c_97 (by decide)
              · refine r_aload_n C0 100 3 dX4_at_100 rfl rfl ?_
                refine cgI_6 C0 101 flX4_113 d.1 dX4_at_101 ?_
                refine r_goto C0 104 108 dX4_at_104 (by decide) ?_
                refine r_iret C 108 dX4_at_108 (Nat.le_refl _) (Nat.le_refl _) ?_
                exact ⟨by rw [d.2.2.2.2.2.2.2.1]; simp only [atA, hcl, eq_false c_7, eq_false c_16, eq_true hyes, eq_true (Int32.not_lt.mp c_37)]; rfl, rfl⟩
          · refine r_tableOut C0 48 109 dX4_at_48 ho (by decide) ?_
            refine r_iload C0 109 dX4_at_109 rfl ?_
            refine r_if_eq C0 111 124 dX4_at_111 (by decide) (fun c_111 => ?_) (fun c_111 => ?_)
            · exact absurd c_111 (by decide)
            · refine r_aload_n C0 114 3 dX4_at_114 rfl rfl ?_
              refine cgI_6 C0 115 flX4_113 d.1 dX4_at_115 ?_
              refine s_call (As := [.int _]) C0 118 1 (k_X4_gradeOf _ _) (rm_X4_gradeOf (by decide) (by decide) (Nat.le_refl _) (Nat.le_refl _)) mlX4_116 st_X4_gradeOf rfl (Nat.le_of_ble_eq_true rfl) dX4_at_118 ?_
              rintro _ _ ⟨rfl, rfl⟩
              refine r_goto C0 121 126 dX4_at_121 (by decide) ?_
              refine r_iret C 126 dX4_at_126 (Nat.le_refl _) (Nat.le_refl _) ?_
              exact ⟨by rw [d.2.2.2.2.2.2.2.1]; simp [atA, eN, hcl, eq_false c_7, eq_false c_16, eq_true hyes, eq_true (Int32.not_lt.mp c_37), swn ho (c := 0) (by decide), swn ho (c := 1) (by decide), swn ho (c := 2) (by decide), swn ho (c := 3) (by decide)], rfl⟩
    · refine r_iconst C0 19 (-1) dX4_at_19 (by decide) ?_
      refine r_iret C 20 dX4_at_20 (Nat.le_refl _) (Nat.le_refl _) ?_
      exact ⟨by simp [atA, eq_false c_7, eq_true c_16], rfl⟩
end C22
