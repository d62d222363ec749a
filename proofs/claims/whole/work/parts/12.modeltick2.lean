/-! the model: takes, dries, oneTick, tick -/
theorem s2M_eq (N : Nat → Nat → Int32) : up2 (mvS N 15) 10 0 0 = s2M N := by
  funext g
  by_cases h : g = 10
  · subst h; rfl
  · rw [up2_n h]
    unfold mvS s2M
    rw [if_neg h, if_neg h]
theorem inR_1x {v b : Int32} {n : Nat} (hb : b.toInt = n) (h : ¬ inR v 1 b = 0) : ∃ x : Nat, x ≤ n ∧ v = nI x := by
  have h1 : 1 ≤ v ∧ v ≤ b := Classical.byContradiction (fun q => h (inR_0.mpr q))
  exact nI_of2 hb (Int32.not_lt.mpr (Int32.le_trans (by decide) h1.1)) h1.2

section M12
variable {D : va_G} {ar : Nat → ClassId} {X : XT} {h1 : Nat} {ad : Nat → Nat} {M : Nat → Nat → Int32} {T : Int64}
set_option maxRecDepth 100000 in
theorem k5_takes (hX : Xok X) {E p : Nat} (hE : E ≤ 600) (h : OKM M E) (hp : p < 4)  : Cn D ar X yX5_takes cX5_takes 4 none 1 24 0 0 [.ref h1, .int (nI p)] (mW ar h1 ad M T) (fun r w => r = none ∧ w = mW ar h1 ad (tkM M p) T) := by
  refine Cn.of (own := RX5) hX (by decide) rfl (Nat.le_of_ble_eq_true rfl) (fun j C => ?_)
  have C0 := C.to
  show j _ 0 0 0 [(0, _), (1, _)] []
  obtain ⟨t, ht5, htt, htk⟩ := h.2.2.2.1 p hp
  obtain ⟨P, hP6, hP⟩ := h.2.2.2.2.1
  have hct : (M 19 p).toNatClampNeg = t := by rw [htt]; exact nI_clamp (by omega)
  have hcP : (M 21 0).toNatClampNeg = P := by rw [hP]; exact nI_clamp (by omega)
  have htc : M 19 p = nI (M 19 p).toNatClampNeg := by rw [hct]; exact htt
  refine r_bipush C0 0 8 dX5_takes_0 (by decide) ?_
  refine r_iconst C0 2 2 dX5_takes_2 (by decide) ?_
  refine r_iload_n C0 3 1 dX5_takes_3 rfl rfl ?_
  refine r_imul C0 4 dX5_takes_4 ?_
  refine r_iadd C0 5 dX5_takes_5 ?_
  refine r_istore_n (lv' := [(0, _), (1, _), (2, _)]) C0 6 2 dX5_takes_6 rfl rfl (by decide) rfl ?_
  refine r_aload_n C0 7 0 dX5_takes_7 rfl rfl ?_
  refine m_getA C0 8 10 (by decide) fl5_34 rfl dX5_takes_8 ?_
  refine r_iload_n C0 11 2 dX5_takes_11 rfl rfl ?_
  refine m_ld C0 12 (8 + 2 * p) rfl (nI_add' (a := 8) rfl (nI_mul' (a := 2) rfl rfl)) (show _ < 16 by omega) dX5_takes_12 ?_
  refine r_iconst C0 13 1 dX5_takes_13 (by decide) ?_
  refine r_isub C0 14 dX5_takes_14 ?_
  refine r_istore_n (lv' := [(0, _), (1, _), (2, _), (3, _)]) C0 15 3 dX5_takes_15 rfl rfl (by decide) rfl ?_
  refine r_aload_n C0 16 0 dX5_takes_16 rfl rfl ?_
  refine m_getA C0 17 18 (by decide) fl5_53 rfl dX5_takes_17 ?_
  refine r_iload_n C0 20 1 dX5_takes_20 rfl rfl ?_
  refine m_ld C0 21 p rfl rfl hp dX5_takes_21 ?_
  refine r_if_le C0 22 36 dX5_takes_22 (by decide) (fun c_22 => ?_) (fun c_22 => ?_)
  · refine r_iload_n C0 36 3 dX5_takes_36 rfl rfl ?_
    refine r_if_lt C0 37 86 dX5_takes_37 (by decide) (fun c_37 => ?_) (fun c_37 => ?_)
    · refine r_vret C 86 dX5_takes_86 (Nat.le_refl _) (Nat.le_refl _) ?_
      exact ⟨rfl, by simp only [tkM, eq_true c_22, eq_true c_37]; rfl⟩
    · obtain ⟨heE, hve⟩ := h.egg hE (k := 8 + 2 * p) (by omega) c_37
      rw [hve]
      obtain ⟨b, hb4, hb0⟩ := h.2.2.2.2.2 _ heE
      have hbN : bN M (eN M (8 + 2 * p)) = b := by unfold bN; rw [hb0]; exact nI_clamp (by omega)
      have hb : M 1 (eN M (8 + 2 * p)) = nI (bN M (eN M (8 + 2 * p))) := by rw [hbN]; exact hb0
      refine r_aload_n C0 40 0 dX5_takes_40 rfl rfl ?_
      refine m_getA C0 41 17 (by decide) fl5_49 rfl dX5_takes_41 ?_
      refine r_iload_n C0 44 1 dX5_takes_44 rfl rfl ?_
      refine m_ldz C0 45 p rfl rfl hp dX5_takes_45 ?_
      refine r_if_ne C0 46 86 dX5_takes_46 (by decide) (fun c_46 => ?_) (fun c_46 => ?_)
      · refine r_vret C 86 dX5_takes_86 (Nat.le_refl _) (Nat.le_refl _) ?_
        exact ⟨rfl, by simp only [tkM, eq_true c_22, eq_false c_37, eq_false c_46]; rfl⟩
      · refine r_aload_n C0 49 0 dX5_takes_49 rfl rfl ?_
        refine m_getA C0 50 6 (by decide) fl5_25 rfl dX5_takes_50 ?_
        refine r_iload_n C0 53 3 dX5_takes_53 rfl rfl ?_
        refine m_ld C0 54 (eN M (8 + 2 * p)) rfl rfl (show (eN M (8 + 2 * p)) < 600 by omega) dX5_takes_54 ?_
        refine s_call (As := [.int _]) C0 55 1 (k5_gradeBy hX _ _) (rm5_gradeBy (by decide) (by decide) (Nat.le_refl _) (Nat.le_refl _)) ml5_138 st5_gradeBy rfl (Nat.le_of_ble_eq_true rfl) dX5_takes_55 ?_
        rintro _ _ ⟨rfl, rfl⟩
        refine r_aload_n C0 58 0 dX5_takes_58 rfl rfl ?_
        refine m_getA C0 59 16 (by decide) fl5_46 rfl dX5_takes_59 ?_
        refine r_iload_n C0 62 1 dX5_takes_62 rfl rfl ?_
        refine m_ld C0 63 p rfl rfl hp dX5_takes_63 ?_
        refine r_icmp_ne C0 64 86 dX5_takes_64 (by decide) (fun c_64 => ?_) (fun c_64 => ?_)
        · refine r_vret C 86 dX5_takes_86 (Nat.le_refl _) (Nat.le_refl _) ?_
          exact ⟨rfl, by simp only [tkM, eq_true c_22, eq_false c_37, eq_true c_46, eq_false c_64]; rfl⟩
        · refine r_aload_n C0 67 0 dX5_takes_67 rfl rfl ?_
          refine m_getA C0 68 19 (by decide) fl5_56 rfl dX5_takes_68 ?_
          refine r_iload_n C0 71 1 dX5_takes_71 rfl rfl ?_
          refine m_ld C0 72 p rfl rfl hp dX5_takes_72 ?_
          refine r_iconst C0 73 5 dX5_takes_73 (by decide) ?_
          refine r_icmp_ne C0 74 87 dX5_takes_74 (by decide) (fun c_74 => ?_) (fun c_74 => ?_)
          · refine r_aload_n C0 87 0 dX5_takes_87 rfl rfl ?_
            refine m_getA C0 88 10 (by decide) fl5_34 rfl dX5_takes_88 ?_
            refine r_iload_n C0 91 2 dX5_takes_91 rfl rfl ?_
            refine r_iconst C0 92 0 dX5_takes_92 (by decide) ?_
            refine m_st C0 93 (8 + 2 * p) rfl (nI_add' (a := 8) rfl (nI_mul' (a := 2) rfl rfl)) (show _ < 16 by omega) dX5_takes_93 ?_
            refine r_aload_n C0 94 0 dX5_takes_94 rfl rfl ?_
            refine m_getA C0 95 20 (by decide) fl5_59 rfl dX5_takes_95 ?_
            refine r_bipush C0 98 6 dX5_takes_98 (by decide) ?_
            refine r_iload_n C0 100 1 dX5_takes_100 rfl rfl ?_
            refine r_imul C0 101 dX5_takes_101 ?_
            refine r_aload_n C0 102 0 dX5_takes_102 rfl rfl ?_
            refine m_getA C0 103 19 (by decide) fl5_56 rfl dX5_takes_103 ?_
            refine r_iload_n C0 106 1 dX5_takes_106 rfl rfl ?_
            refine m_ldv C0 107 p (M 19 p) rfl rfl hp rfl dX5_takes_107 ?_
            refine r_iadd C0 108 dX5_takes_108 ?_
            refine r_iload_n C0 109 3 dX5_takes_109 rfl rfl ?_
            refine m_st C0 110 (6 * p + (M 19 p).toNatClampNeg) rfl (nI_add' (nI_mul' (a := 6) rfl rfl) htc) (show _ < 24 by omega) dX5_takes_110 ?_
            refine r_aload_n C0 111 0 dX5_takes_111 rfl rfl ?_
            refine m_getA C0 112 19 (by decide) fl5_56 rfl dX5_takes_112 ?_
            refine r_iload_n C0 115 1 dX5_takes_115 rfl rfl ?_
            refine r_dup2 C0 116 dX5_takes_116 rfl rfl ?_
            refine m_ldv C0 117 p (M 19 p) rfl rfl hp rfl dX5_takes_117 ?_
            refine r_iconst C0 118 1 dX5_takes_118 (by decide) ?_
            refine r_iadd C0 119 dX5_takes_119 ?_
            refine m_st C0 120 p rfl rfl hp dX5_takes_120 ?_
            refine r_aload_n C0 121 0 dX5_takes_121 rfl rfl ?_
            refine m_getA C0 122 18 (by decide) fl5_53 rfl dX5_takes_122 ?_
            refine r_iload_n C0 125 1 dX5_takes_125 rfl rfl ?_
            refine r_iconst C0 126 2 dX5_takes_126 (by decide) ?_
            refine m_st C0 127 p rfl rfl hp dX5_takes_127 ?_
            refine r_aload_n C0 128 0 dX5_takes_128 rfl rfl ?_
            refine m_getA C0 129 15 (by decide) fl5_43 rfl dX5_takes_129 ?_
            refine r_bipush C0 132 12 dX5_takes_132 (by decide) ?_
            refine r_aload_n C0 134 0 dX5_takes_134 rfl rfl ?_
            refine m_getA C0 135 1 (by decide) fl5_7 rfl dX5_takes_135 ?_
            refine r_iload_n C0 138 3 dX5_takes_138 rfl rfl ?_
            refine m_ldv C0 139 (eN M (8 + 2 * p)) (M 1 (eN M (8 + 2 * p))) rfl rfl (show (eN M (8 + 2 * p)) < 600 by omega) rfl dX5_takes_139 ?_
            refine r_iadd C0 140 dX5_takes_140 ?_
            refine r_dup2 C0 141 dX5_takes_141 rfl rfl ?_
            refine m_ld C0 142 (12 + bN M (eN M (8 + 2 * p))) rfl (nI_add' (a := 12) rfl hb) (show _ < 20 by omega) dX5_takes_142 ?_
            refine r_iconst C0 143 1 dX5_takes_143 (by decide) ?_
            refine r_iadd C0 144 dX5_takes_144 ?_
            refine m_st C0 145 (12 + bN M (eN M (8 + 2 * p))) rfl (nI_add' (a := 12) rfl hb) (show _ < 20 by omega) dX5_takes_145 ?_
            refine r_aload_n C0 146 0 dX5_takes_146 rfl rfl ?_
            refine m_getA C0 147 19 (by decide) fl5_56 rfl dX5_takes_147 ?_
            refine r_iload_n C0 150 1 dX5_takes_150 rfl rfl ?_
            refine m_ldv C0 151 p (M 19 p + 1) rfl rfl hp (by simp (decide := true) only [up2_n, up2_s]; exact pk_us) dX5_takes_151 ?_
            refine r_bipush C0 152 6 dX5_takes_152 (by decide) ?_
            refine r_icmp_ne C0 154 162 dX5_takes_154 (by decide) (fun c_154 => ?_) (fun c_154 => ?_)
            · refine r_vret C 162 dX5_takes_162 (Nat.le_refl _) (Nat.le_refl _) ?_
              exact ⟨rfl, by simp only [tkM, tk2, hcP, eq_true c_22, eq_false c_37, eq_true c_46, eq_true c_64, eq_false c_74, eq_false c_154]; rfl⟩
            · have ht5' : t = 5 := by
                rw [htt, nI_1] at c_154
                have := (nI_eq (by omega) (by decide)).mp (show nI (t + 1) = nI 6 from c_154)
                omega
              have hno : P ≠ 60 := absurd (by rw [htt, ht5']; rfl) c_74
              have htt6 : ∀ k, k < 6 → ∃ e : Nat, e < 600 ∧ tk1 M p (eN M (8 + 2 * p)) 20 (6 * p + k) = nI e := fun k hk => by
                show ∃ e : Nat, e < 600 ∧ upd (M 20) (6 * p + (M 19 p).toNatClampNeg) (nI (eN M (8 + 2 * p))) (6 * p + k) = nI e
                rw [hct]
                unfold upd
                by_cases q : 6 * p + k = 6 * p + t
                · rw [if_pos q]; exact ⟨_, by omega, rfl⟩
                · rw [if_neg q]
                  obtain ⟨e, he, hee⟩ := htk k (by omega)
                  exact ⟨e, by omega, hee⟩
              refine r_aload_n C0 157 0 dX5_takes_157 rfl rfl ?_
              refine r_iload_n C0 158 1 dX5_takes_158 rfl rfl ?_
              refine m_call (As := [.int _]) C0 159 1 (k5_packs (M := tk1 M p (eN M (8 + 2 * p))) (P := P) hX hp hP (Nat.lt_of_le_of_ne hP6 hno) htt6) (rm5_packs (by decide) (by decide) (Nat.le_refl _) (Nat.le_refl _)) ml5_141 im5_packs se5_packs rfl (Nat.le_of_ble_eq_true rfl) dX5_takes_159 ?_
              rintro _ _ ⟨rfl, rfl⟩
              refine r_vret C 162 dX5_takes_162 (Nat.le_refl _) (Nat.le_refl _) ?_
              exact ⟨rfl, by simp only [tkM, tk2, hcP, eq_true c_22, eq_false c_37, eq_true c_46, eq_true c_64, eq_false c_74, eq_true c_154]; rfl⟩
          · refine r_aload_n C0 77 0 dX5_takes_77 rfl rfl ?_
            refine m_getI C0 78 21 rfl fl5_135 rfl dX5_takes_78 ?_
            refine r_bipush C0 81 60 dX5_takes_81 (by decide) ?_
            refine r_icmp_ne C0 83 87 dX5_takes_83 (by decide) (fun c_83 => ?_) (fun c_83 => ?_)
            · refine r_aload_n C0 87 0 dX5_takes_87 rfl rfl ?_
              refine m_getA C0 88 10 (by decide) fl5_34 rfl dX5_takes_88 ?_
              refine r_iload_n C0 91 2 dX5_takes_91 rfl rfl ?_
              refine r_iconst C0 92 0 dX5_takes_92 (by decide) ?_
              refine m_st C0 93 (8 + 2 * p) rfl (nI_add' (a := 8) rfl (nI_mul' (a := 2) rfl rfl)) (show _ < 16 by omega) dX5_takes_93 ?_
              refine r_aload_n C0 94 0 dX5_takes_94 rfl rfl ?_
              refine m_getA C0 95 20 (by decide) fl5_59 rfl dX5_takes_95 ?_
              refine r_bipush C0 98 6 dX5_takes_98 (by decide) ?_
              refine r_iload_n C0 100 1 dX5_takes_100 rfl rfl ?_
              refine r_imul C0 101 dX5_takes_101 ?_
              refine r_aload_n C0 102 0 dX5_takes_102 rfl rfl ?_
              refine m_getA C0 103 19 (by decide) fl5_56 rfl dX5_takes_103 ?_
              refine r_iload_n C0 106 1 dX5_takes_106 rfl rfl ?_
              refine m_ldv C0 107 p (M 19 p) rfl rfl hp rfl dX5_takes_107 ?_
              refine r_iadd C0 108 dX5_takes_108 ?_
              refine r_iload_n C0 109 3 dX5_takes_109 rfl rfl ?_
              refine m_st C0 110 (6 * p + (M 19 p).toNatClampNeg) rfl (nI_add' (nI_mul' (a := 6) rfl rfl) htc) (show _ < 24 by omega) dX5_takes_110 ?_
              refine r_aload_n C0 111 0 dX5_takes_111 rfl rfl ?_
              refine m_getA C0 112 19 (by decide) fl5_56 rfl dX5_takes_112 ?_
              refine r_iload_n C0 115 1 dX5_takes_115 rfl rfl ?_
              refine r_dup2 C0 116 dX5_takes_116 rfl rfl ?_
              refine m_ldv C0 117 p (M 19 p) rfl rfl hp rfl dX5_takes_117 ?_
              refine r_iconst C0 118 1 dX5_takes_118 (by decide) ?_
              refine r_iadd C0 119 dX5_takes_119 ?_
              refine m_st C0 120 p rfl rfl hp dX5_takes_120 ?_
              refine r_aload_n C0 121 0 dX5_takes_121 rfl rfl ?_
              refine m_getA C0 122 18 (by decide) fl5_53 rfl dX5_takes_122 ?_
              refine r_iload_n C0 125 1 dX5_takes_125 rfl rfl ?_
              refine r_iconst C0 126 2 dX5_takes_126 (by decide) ?_
              refine m_st C0 127 p rfl rfl hp dX5_takes_127 ?_
              refine r_aload_n C0 128 0 dX5_takes_128 rfl rfl ?_
              refine m_getA C0 129 15 (by decide) fl5_43 rfl dX5_takes_129 ?_
              refine r_bipush C0 132 12 dX5_takes_132 (by decide) ?_
              refine r_aload_n C0 134 0 dX5_takes_134 rfl rfl ?_
              refine m_getA C0 135 1 (by decide) fl5_7 rfl dX5_takes_135 ?_
              refine r_iload_n C0 138 3 dX5_takes_138 rfl rfl ?_
              refine m_ldv C0 139 (eN M (8 + 2 * p)) (M 1 (eN M (8 + 2 * p))) rfl rfl (show (eN M (8 + 2 * p)) < 600 by omega) rfl dX5_takes_139 ?_
              refine r_iadd C0 140 dX5_takes_140 ?_
              refine r_dup2 C0 141 dX5_takes_141 rfl rfl ?_
              refine m_ld C0 142 (12 + bN M (eN M (8 + 2 * p))) rfl (nI_add' (a := 12) rfl hb) (show _ < 20 by omega) dX5_takes_142 ?_
              refine r_iconst C0 143 1 dX5_takes_143 (by decide) ?_
              refine r_iadd C0 144 dX5_takes_144 ?_
              refine m_st C0 145 (12 + bN M (eN M (8 + 2 * p))) rfl (nI_add' (a := 12) rfl hb) (show _ < 20 by omega) dX5_takes_145 ?_
              refine r_aload_n C0 146 0 dX5_takes_146 rfl rfl ?_
              refine m_getA C0 147 19 (by decide) fl5_56 rfl dX5_takes_147 ?_
              refine r_iload_n C0 150 1 dX5_takes_150 rfl rfl ?_
              refine m_ldv C0 151 p (M 19 p + 1) rfl rfl hp (by simp (decide := true) only [up2_n, up2_s]; exact pk_us) dX5_takes_151 ?_
              refine r_bipush C0 152 6 dX5_takes_152 (by decide) ?_
              refine r_icmp_ne C0 154 162 dX5_takes_154 (by decide) (fun c_154 => ?_) (fun c_154 => ?_)
              · refine r_vret C 162 dX5_takes_162 (Nat.le_refl _) (Nat.le_refl _) ?_
                exact ⟨rfl, by simp only [tkM, tk2, hcP, eq_true c_22, eq_false c_37, eq_true c_46, eq_true c_64, eq_true c_74, eq_false c_83, eq_false c_154]; rfl⟩
              · have ht5' : t = 5 := by
                  rw [htt, nI_1] at c_154
                  have := (nI_eq (by omega) (by decide)).mp (show nI (t + 1) = nI 6 from c_154)
                  omega
                have hno : P ≠ 60 := fun q => c_83 (by rw [hP, q]; rfl)
                have htt6 : ∀ k, k < 6 → ∃ e : Nat, e < 600 ∧ tk1 M p (eN M (8 + 2 * p)) 20 (6 * p + k) = nI e := fun k hk => by
                  show ∃ e : Nat, e < 600 ∧ upd (M 20) (6 * p + (M 19 p).toNatClampNeg) (nI (eN M (8 + 2 * p))) (6 * p + k) = nI e
                  rw [hct]
                  unfold upd
                  by_cases q : 6 * p + k = 6 * p + t
                  · rw [if_pos q]; exact ⟨_, by omega, rfl⟩
                  · rw [if_neg q]
                    obtain ⟨e, he, hee⟩ := htk k (by omega)
                    exact ⟨e, by omega, hee⟩
                refine r_aload_n C0 157 0 dX5_takes_157 rfl rfl ?_
                refine r_iload_n C0 158 1 dX5_takes_158 rfl rfl ?_
                refine m_call (As := [.int _]) C0 159 1 (k5_packs (M := tk1 M p (eN M (8 + 2 * p))) (P := P) hX hp hP (Nat.lt_of_le_of_ne hP6 hno) htt6) (rm5_packs (by decide) (by decide) (Nat.le_refl _) (Nat.le_refl _)) ml5_141 im5_packs se5_packs rfl (Nat.le_of_ble_eq_true rfl) dX5_takes_159 ?_
                rintro _ _ ⟨rfl, rfl⟩
                refine r_vret C 162 dX5_takes_162 (Nat.le_refl _) (Nat.le_refl _) ?_
                exact ⟨rfl, by simp only [tkM, tk2, hcP, eq_true c_22, eq_false c_37, eq_true c_46, eq_true c_64, eq_true c_74, eq_false c_83, eq_true c_154]; rfl⟩
            · refine r_vret C 86 dX5_takes_86 (Nat.le_refl _) (Nat.le_refl _) ?_
              exact ⟨rfl, by simp only [tkM, eq_true c_22, eq_false c_37, eq_true c_46, eq_true c_64, eq_true c_74, eq_true c_83]; rfl⟩
  · refine r_aload_n C0 25 0 dX5_takes_25 rfl rfl ?_
    refine m_getA C0 26 18 (by decide) fl5_53 rfl dX5_takes_26 ?_
    refine r_iload_n C0 29 1 dX5_takes_29 rfl rfl ?_
    refine r_dup2 C0 30 dX5_takes_30 rfl rfl ?_
    refine m_ld C0 31 p rfl rfl hp dX5_takes_31 ?_
    refine r_iconst C0 32 1 dX5_takes_32 (by decide) ?_
    refine r_isub C0 33 dX5_takes_33 ?_
    refine m_st C0 34 p rfl rfl hp dX5_takes_34 ?_
    refine r_vret C 35 dX5_takes_35 (Nat.le_refl _) (Nat.le_refl _) ?_
    exact ⟨rfl, by simp only [tkM, eq_false c_22]; rfl⟩
set_option maxRecDepth 100000 in
theorem k5_dries (hX : Xok X) {E : Nat} (hE : E ≤ 600) (h : OKM M E)  : Cn D ar X yX5_dries cX5_dries 2 none 0 0 0 0 [.ref h1] (mW ar h1 ad M T) (fun r w => r = none ∧ w = mW ar h1 ad (drN 30 M) T) := by
  refine Cn.of (own := RX5) hX (by decide) rfl (Nat.le_of_ble_eq_true rfl) (fun j C => ?_)
  have C0 := C.to
  show j _ 0 0 0 [(0, _)] []
  obtain ⟨W, hW30, hW, -⟩ := h.2.2.1
  suffices key : ∀ (n : Nat), n ≤ 30 → ∀ (N : Nat → Nat → Int32), OKM N E → (∃ W : Nat, W ≤ n ∧ N 11 0 = nI W) → drN n N = drN 30 M → j (mW ar h1 ad N T) 0 0 0 [(0, .ref h1)] [] from key 30 (by decide) M h ⟨W, hW30, hW⟩ rfl
  intro n
  induction n with
  | zero =>
    intro hn30 N hN hW9 hd
    obtain ⟨W9, hWn, hW9⟩ := hW9
    refine r_aload_n C0 0 0 dX5_dries_0 rfl rfl ?_
    refine m_getI C0 1 11 rfl fl5_129 rfl dX5_dries_1 ?_
    refine r_if_le C0 4 111 dX5_dries_4 (by decide) (fun c_4 => ?_) (fun c_4 => ?_)
    · refine r_vret C 111 dX5_dries_111 (Nat.le_refl _) (Nat.le_refl _) ?_
      exact ⟨rfl, by rw [← hd]; rfl⟩
    · exact absurd (by rw [hW9, show W9 = 0 by omega]; decide) c_4
  | succ n ih =>
    intro hn30 N hN hW9 hd
    obtain ⟨W9, hWn, hW9⟩ := hW9
    obtain ⟨Q, hQ20, hQ, -⟩ := hN.1
    obtain ⟨W8, hW830, hW8, -⟩ := hN.2.2.1
    have hcQ : (N 8 0).toNatClampNeg = Q := by rw [hQ]; exact nI_clamp (by omega)
    have hQc : N 8 0 = nI (N 8 0).toNatClampNeg := by rw [hcQ]; exact hQ
    have hcW : (N 11 0).toNatClampNeg = W8 := by rw [hW8]; exact nI_clamp (by omega)
    refine r_aload_n C0 0 0 dX5_dries_0 rfl rfl ?_
    refine m_getI C0 1 11 rfl fl5_129 rfl dX5_dries_1 ?_
    refine r_if_le C0 4 111 dX5_dries_4 (by decide) (fun c_4 => ?_) (fun c_4 => ?_)
    · refine r_vret C 111 dX5_dries_111 (Nat.le_refl _) (Nat.le_refl _) ?_
      exact ⟨rfl, by rw [← hd]; simp only [drN, eq_true c_4]; rfl⟩
    · refine r_aload_n C0 7 0 dX5_dries_7 rfl rfl ?_
      refine m_getA C0 8 13 (by decide) fl5_40 rfl dX5_dries_8 ?_
      refine r_iconst C0 11 0 dX5_dries_11 (by decide) ?_
      refine m_ld C0 12 0 rfl rfl (by decide) dX5_dries_12 ?_
      refine r_aload_n C0 13 0 dX5_dries_13 rfl rfl ?_
      refine m_getI C0 14 35 rfl fl5_98 rfl dX5_dries_14 ?_
      refine r_icmp_gt C0 17 111 dX5_dries_17 (by decide) (fun c_17 => ?_) (fun c_17 => ?_)
      · refine r_vret C 111 dX5_dries_111 (Nat.le_refl _) (Nat.le_refl _) ?_
        exact ⟨rfl, by rw [← hd]; simp only [drN, eq_false c_4, eq_true c_17]; rfl⟩
      · refine r_aload_n C0 20 0 dX5_dries_20 rfl rfl ?_
        refine m_getI C0 21 8 rfl fl5_106 rfl dX5_dries_21 ?_
        refine r_bipush C0 24 20 dX5_dries_24 (by decide) ?_
        refine r_icmp_ge C0 26 111 dX5_dries_26 (by decide) (fun c_26 => ?_) (fun c_26 => ?_)
        · refine r_vret C 111 dX5_dries_111 (Nat.le_refl _) (Nat.le_refl _) ?_
          exact ⟨rfl, by rw [← hd]; simp only [drN, eq_false c_4, eq_false c_17, eq_true c_26]; rfl⟩
        · have hQlt : Q < 20 := Nat.lt_of_not_le (fun q => c_26 (by rw [hQ]; exact nI_le (a := 20) q (by omega)))
          refine r_aload_n C0 29 0 dX5_dries_29 rfl rfl ?_
          refine m_getA C0 30 9 (by decide) fl5_31 rfl dX5_dries_30 ?_
          refine r_aload_n C0 33 0 dX5_dries_33 rfl rfl ?_
          refine m_getI C0 34 8 rfl fl5_106 rfl dX5_dries_34 ?_
          refine r_aload_n C0 37 0 dX5_dries_37 rfl rfl ?_
          refine m_getA C0 38 12 (by decide) fl5_37 rfl dX5_dries_38 ?_
          refine r_iconst C0 41 0 dX5_dries_41 (by decide) ?_
          refine m_ld C0 42 0 rfl rfl (by decide) dX5_dries_42 ?_
          refine m_st C0 43 (N 8 0).toNatClampNeg rfl hQc (show (N 8 0).toNatClampNeg < 20 by rw [hcQ]; exact hQlt) dX5_dries_43 ?_
          refine r_aload_n C0 44 0 dX5_dries_44 rfl rfl ?_
          refine r_dup C0 45 dX5_dries_45 rfl ?_
          refine m_getI C0 46 8 rfl fl5_106 rfl dX5_dries_46 ?_
          refine r_iconst C0 49 1 dX5_dries_49 (by decide) ?_
          refine r_iadd C0 50 dX5_dries_50 ?_
          refine m_put C0 51 8 rfl fl5_106 rfl dX5_dries_51 ?_
          refine r_aload_n C0 54 0 dX5_dries_54 rfl rfl ?_
          refine r_dup C0 55 dX5_dries_55 rfl ?_
          refine m_getI C0 56 11 rfl fl5_129 rfl dX5_dries_56 ?_
          refine r_iconst C0 59 1 dX5_dries_59 (by decide) ?_
          refine r_isub C0 60 dX5_dries_60 ?_
          refine m_put C0 61 11 rfl fl5_129 rfl dX5_dries_61 ?_
          refine r_iconst C0 64 0 dX5_dries_64 (by decide) ?_
          refine r_istore_n (lv' := [(0, _), (1, _)]) C0 65 1 dX5_dries_65 rfl rfl (by decide) rfl ?_
          have hW0 : 0 < W8 := Nat.pos_of_ne_zero (fun q => c_4 (by rw [hW8, q]; decide))
          have hWq : ∀ k, drS (drQ N) k 11 0 = nI (W8 - 1) := fun k => by
            show upd (N 11) 0 (N 11 0 - 1) 0 = _
            rw [pk_us]; exact nI_pr hW8 hW0
          refine m_eq (N := drS (drQ N) 0) (by rw [drS_0]; rfl) ?_
          refine loopUp (P := (W8 - 1)) (f := fun k => j (mW ar h1 ad (drS (drQ N) k) T) 0 0 66 [(0, .ref h1), (1, .int (nI k))] []) (fun k hk ih2 => ?_) 0 (Nat.zero_le _)
          refine r_iload_n C0 66 1 dX5_dries_66 rfl rfl ?_
          refine r_aload_n C0 67 0 dX5_dries_67 rfl rfl ?_
          refine m_getI C0 68 11 rfl fl5_129 rfl dX5_dries_68 ?_
          refine r_icmp_ge C0 71 108 dX5_dries_71 (by decide) (fun c_71 => ?_) (fun c_71 => ?_)
          · have hge : W8 - 1 ≤ k := (nI_leI (by omega) (by omega)).mp (by rw [← hWq k]; exact c_71)
            refine r_goto C0 108 0 dX5_dries_108 (by decide) ?_
            have e9 : k = W8 - 1 := by omega
            have hdr : dr1 N = drS (drQ N) k := by unfold dr1; rw [hcW, e9]
            rw [← hdr]
            have hW1 : dr1 N 11 0 = nI (W8 - 1) := by rw [hdr]; exact hWq k
            refine r_drop C0 ?_ (ih (by omega) (dr1 N) (hN.d1 c_4 c_26) ⟨W8 - 1, ?_, hW1⟩ ?_)
            · simp
            · have := (nI_eq (a := W9) (b := W8) (by omega) (by omega)).mp (hW9.symm.trans hW8)
              omega
            · rw [← hd]
              simp only [drN, eq_false c_4, eq_false c_17, eq_false c_26]
              rfl
          · have hlt : k < W8 - 1 := Nat.lt_of_not_le (fun q => c_71 (by rw [hWq k]; exact nI_le q (by omega)))
            refine r_aload_n C0 74 0 dX5_dries_74 rfl rfl ?_
            refine m_getA C0 75 12 (by decide) fl5_37 rfl dX5_dries_75 ?_
            refine r_iload_n C0 78 1 dX5_dries_78 rfl rfl ?_
            refine r_aload_n C0 79 0 dX5_dries_79 rfl rfl ?_
            refine m_getA C0 80 12 (by decide) fl5_37 rfl dX5_dries_80 ?_
            refine r_iload_n C0 83 1 dX5_dries_83 rfl rfl ?_
            refine r_iconst C0 84 1 dX5_dries_84 (by decide) ?_
            refine r_iadd C0 85 dX5_dries_85 ?_
            refine m_ldv C0 86 (k + 1) (drQ N 12 (k + 1)) rfl (nI_1 k) (show k + 1 < 30 by omega) (shf_r _ _) dX5_dries_86 ?_
            refine m_st C0 87 k rfl rfl (show k < 30 by omega) dX5_dries_87 ?_
            refine r_aload_n C0 88 0 dX5_dries_88 rfl rfl ?_
            refine m_getA C0 89 13 (by decide) fl5_40 rfl dX5_dries_89 ?_
            refine r_iload_n C0 92 1 dX5_dries_92 rfl rfl ?_
            refine r_aload_n C0 93 0 dX5_dries_93 rfl rfl ?_
            refine m_getA C0 94 13 (by decide) fl5_40 rfl dX5_dries_94 ?_
            refine r_iload_n C0 97 1 dX5_dries_97 rfl rfl ?_
            refine r_iconst C0 98 1 dX5_dries_98 (by decide) ?_
            refine r_iadd C0 99 dX5_dries_99 ?_
            refine m_ldv C0 100 (k + 1) (drQ N 13 (k + 1)) rfl (nI_1 k) (show k + 1 < 30 by omega) (by simp (decide := true) only [up2_n]; exact shf_r _ _) dX5_dries_100 ?_
            refine m_st C0 101 k rfl rfl (show k < 30 by omega) dX5_dries_101 ?_
            refine r_iinc (lv' := [(0, _), (1, _)]) C0 102 _ dX5_dries_102 rfl rfl rfl (by decide) rfl ?_
            refine r_goto C0 105 66 dX5_dries_105 (by decide) ?_
            have h9 := ih2 hlt
            rw [← nI_1 k] at h9
            refine m_eq (N := drS (drQ N) (k + 1)) (drS_s _ _) ?_
            exact h9
set_option maxRecDepth 100000 in
theorem k5_oneTick (hX : Xok X) {E : Nat} (hE : E ≤ 600) (h : OKM M E)  : Cn D ar X yX5_oneTick cX5_oneTick 4 none 3 63 0 0 [.ref h1] (mW ar h1 ad M T) (fun r w => r = none ∧ w = mW ar h1 ad (otM M) (otT M T)) := by
  refine Cn.of (own := RX5) hX (by decide) rfl (Nat.le_of_ble_eq_true rfl) (fun j C => ?_)
  have C0 := C.to
  have hO3 := (h.tkA.lk hE)
  have h193 : j (mW ar h1 ad (tkB M) (otT M T)) 0 0 193 [(0, .ref h1)] [] := by
    refine r_aload_n C0 193 0 dX5_oneTick_193 rfl rfl ?_
    refine r_dup C0 194 dX5_oneTick_194 rfl ?_
    refine m_getI C0 195 35 rfl fl5_98 rfl dX5_oneTick_195 ?_
    refine r_iconst C0 198 1 dX5_oneTick_198 (by decide) ?_
    refine r_iadd C0 199 dX5_oneTick_199 ?_
    refine m_put C0 200 35 rfl fl5_98 rfl dX5_oneTick_200 ?_
    refine r_vret C 203 dX5_oneTick_203 (Nat.le_refl _) (Nat.le_refl _) ?_
    exact ⟨rfl, rfl⟩
  have h132 : j (mW ar h1 ad (drN 30 (tk4 (lkM (tkA M)) 4)) (otT M T)) 0 0 132 [(0, .ref h1)] [] := by
    have hN : OKM (drN 30 (tk4 (lkM (tkA M)) 4)) E := OKM.dr 30 (hO3.tk4 hE 4 (by decide))
    have htb : fdM (drN 30 (tk4 (lkM (tkA M)) 4)) = tkB M := rfl
    generalize drN 30 (tk4 (lkM (tkA M)) 4) = N at hN htb ⊢
    obtain ⟨Q, hQ20, hQ, -⟩ := hN.1
    have hcQ : (N 8 0).toNatClampNeg = Q := by rw [hQ]; exact nI_clamp (by omega)
    refine r_aload_n C0 132 0 dX5_oneTick_132 rfl rfl ?_
    refine m_getI C0 133 8 rfl fl5_106 rfl dX5_oneTick_133 ?_
    refine r_if_le C0 136 193 dX5_oneTick_136 (by decide) (fun c_136 => ?_) (fun c_136 => ?_)
    · refine m_eq ?_ h193
      rw [← htb]
      unfold fdM
      rw [if_pos c_136]
    · refine r_aload_n C0 139 0 dX5_oneTick_139 rfl rfl ?_
      refine m_getA C0 140 10 (by decide) fl5_34 rfl dX5_oneTick_140 ?_
      refine r_iconst C0 143 0 dX5_oneTick_143 (by decide) ?_
      refine r_aload_n C0 144 0 dX5_oneTick_144 rfl rfl ?_
      refine m_getA C0 145 9 (by decide) fl5_31 rfl dX5_oneTick_145 ?_
      refine r_iconst C0 148 0 dX5_oneTick_148 (by decide) ?_
      refine m_ld C0 149 0 rfl rfl (by decide) dX5_oneTick_149 ?_
      refine r_iconst C0 150 1 dX5_oneTick_150 (by decide) ?_
      refine r_iadd C0 151 dX5_oneTick_151 ?_
      refine m_st C0 152 0 rfl rfl (by decide) dX5_oneTick_152 ?_
      refine r_aload_n C0 153 0 dX5_oneTick_153 rfl rfl ?_
      refine r_dup C0 154 dX5_oneTick_154 rfl ?_
      refine m_getI C0 155 8 rfl fl5_106 rfl dX5_oneTick_155 ?_
      refine r_iconst C0 158 1 dX5_oneTick_158 (by decide) ?_
      refine r_isub C0 159 dX5_oneTick_159 ?_
      refine m_put C0 160 8 rfl fl5_106 rfl dX5_oneTick_160 ?_
      refine r_iconst C0 163 0 dX5_oneTick_163 (by decide) ?_
      refine r_istore_n (lv' := [(0, _), (3, _)]) C0 164 3 dX5_oneTick_164 rfl rfl (by decide) rfl ?_
      have hQ0 : 0 < Q := Nat.pos_of_ne_zero (fun q => c_136 (by rw [hQ, q]; decide))
      have hQq : ∀ k, fdS (up2 (up2 N 10 0 (N 9 0 + 1)) 8 0 (N 8 0 - 1)) k 8 0 = nI (Q - 1) := fun k => by
        show upd (N 8) 0 (N 8 0 - 1) 0 = _
        rw [pk_us]; exact nI_pr hQ hQ0
      refine m_eq (N := fdS (up2 (up2 N 10 0 (N 9 0 + 1)) 8 0 (N 8 0 - 1)) 0) (by rw [fdS_0]; rfl) ?_
      refine loopUp (P := (Q - 1)) (f := fun k => j (mW ar h1 ad (fdS (up2 (up2 N 10 0 (N 9 0 + 1)) 8 0 (N 8 0 - 1)) k) (otT M T)) 0 0 165 [(0, .ref h1), (3, .int (nI k))] []) (fun k hk ih => ?_) 0 (Nat.zero_le _)
      refine r_iload_n C0 165 3 dX5_oneTick_165 rfl rfl ?_
      refine r_aload_n C0 166 0 dX5_oneTick_166 rfl rfl ?_
      refine m_getI C0 167 8 rfl fl5_106 rfl dX5_oneTick_167 ?_
      refine r_icmp_ge C0 170 193 dX5_oneTick_170 (by decide) (fun c_170 => ?_) (fun c_170 => ?_)
      · have hge : Q - 1 ≤ k := (nI_leI (by omega) (by omega)).mp (by rw [← hQq k]; exact c_170)
        have e9 : k = Q - 1 := by omega
        have hfd : fdS (up2 (up2 N 10 0 (N 9 0 + 1)) 8 0 (N 8 0 - 1)) k = tkB M := by
          rw [← htb]
          unfold fdM
          rw [if_neg c_136, hcQ, e9]
        refine m_eq hfd (r_drop C0 ?_ h193)
        simp
      · have hlt : k < Q - 1 := Nat.lt_of_not_le (fun q => c_170 (by rw [hQq k]; exact nI_le q (by omega)))
        refine r_aload_n C0 173 0 dX5_oneTick_173 rfl rfl ?_
        refine m_getA C0 174 9 (by decide) fl5_31 rfl dX5_oneTick_174 ?_
        refine r_iload_n C0 177 3 dX5_oneTick_177 rfl rfl ?_
        refine r_aload_n C0 178 0 dX5_oneTick_178 rfl rfl ?_
        refine m_getA C0 179 9 (by decide) fl5_31 rfl dX5_oneTick_179 ?_
        refine r_iload_n C0 182 3 dX5_oneTick_182 rfl rfl ?_
        refine r_iconst C0 183 1 dX5_oneTick_183 (by decide) ?_
        refine r_iadd C0 184 dX5_oneTick_184 ?_
        refine m_ldv C0 185 (k + 1) ((up2 (up2 N 10 0 (N 9 0 + 1)) 8 0 (N 8 0 - 1)) 9 (k + 1)) rfl (nI_1 k) (show k + 1 < 20 by omega) (shf_r _ _) dX5_oneTick_185 ?_
        refine m_st C0 186 k rfl rfl (show k < 20 by omega) dX5_oneTick_186 ?_
        refine r_iinc (lv' := [(0, _), (3, _)]) C0 187 _ dX5_oneTick_187 rfl rfl rfl (by decide) rfl ?_
        refine r_goto C0 190 165 dX5_oneTick_190 (by decide) ?_
        have h9 := ih hlt
        rw [← nI_1 k] at h9
        refine m_eq (N := fdS (up2 (up2 N 10 0 (N 9 0 + 1)) 8 0 (N 8 0 - 1)) (k + 1)) (fdS_s _ _) ?_
        exact h9
  have h106 : j (mW ar h1 ad (tkA M) T) 0 0 106 [(0, .ref h1)] [] := by
    refine r_aload_n C0 106 0 dX5_oneTick_106 rfl rfl ?_
    refine m_call (As := []) C0 107 0 (k5_looks hX hE h.tkA) (rm5_looks (by decide) (by decide) (Nat.le_refl _) (Nat.le_refl _)) ml5_147 im5_looks se5_looks rfl (Nat.le_of_ble_eq_true rfl) dX5_oneTick_107 ?_
    rintro _ _ ⟨rfl, rfl⟩
    refine r_iconst C0 110 0 dX5_oneTick_110 (by decide) ?_
    refine r_istore_n (lv' := [(0, _), (3, _)]) C0 111 3 dX5_oneTick_111 rfl rfl (by decide) rfl ?_
    refine loopUp (P := 4) (f := fun i => j (mW ar h1 ad (tk4 (lkM (tkA M)) i) (otT M T)) 0 0 112 [(0, .ref h1), (3, .int (nI i))] []) (fun i hi ih => ?_) 0 (Nat.zero_le _)
    refine r_iload_n C0 112 3 dX5_oneTick_112 rfl rfl ?_
    refine r_iconst C0 113 4 dX5_oneTick_113 (by decide) ?_
    refine r_icmp_ge C0 114 128 dX5_oneTick_114 (by decide) (fun c_114 => ?_) (fun c_114 => ?_)
    · have hge : 4 ≤ i := (nI_leI (a := 4) (by omega) (by omega)).mp c_114
      have e9 : i = 4 := by omega
      subst e9
      refine r_aload_n C0 128 0 dX5_oneTick_128 rfl rfl ?_
      refine m_call (As := []) C0 129 0 (k5_dries hX hE (hO3.tk4 hE 4 (by decide))) (rm5_dries (by decide) (by decide) (Nat.le_refl _) (Nat.le_refl _)) ml5_153 im5_dries se5_dries rfl (Nat.le_of_ble_eq_true rfl) dX5_oneTick_129 ?_
      rintro _ _ ⟨rfl, rfl⟩
      refine r_drop C0 ?_ h132
      simp
    · have hlt : i < 4 := Nat.lt_of_not_le (fun q => c_114 (nI_le (a := 4) q (by omega)))
      refine r_aload_n C0 117 0 dX5_oneTick_117 rfl rfl ?_
      refine r_iload_n C0 118 3 dX5_oneTick_118 rfl rfl ?_
      refine m_call (As := [.int _]) C0 119 1 (k5_takes hX hE (hO3.tk4 hE i (by omega)) hlt) (rm5_takes (by decide) (by decide) (Nat.le_refl _) (Nat.le_refl _)) ml5_150 im5_takes se5_takes rfl (Nat.le_of_ble_eq_true rfl) dX5_oneTick_119 ?_
      rintro _ _ ⟨rfl, rfl⟩
      refine r_iinc (lv' := [(0, _), (3, _)]) C0 122 _ dX5_oneTick_122 rfl rfl rfl (by decide) rfl ?_
      refine r_goto C0 125 112 dX5_oneTick_125 (by decide) ?_
      have h9 := ih hlt
      rw [← nI_1 i] at h9
      exact h9
  have h66 : j (mW ar h1 ad (s2M (s1M M)) T) 0 0 66 [(0, .ref h1)] [] := by
    have hN : OKM (s2M (s1M M)) E := h.s1.s2
    have hta : s3M (s2M (s1M M)) = tkA M := rfl
    generalize s2M (s1M M) = N at hN hta ⊢
    refine r_aload_n C0 66 0 dX5_oneTick_66 rfl rfl ?_
    refine m_getA C0 67 10 (by decide) fl5_34 rfl dX5_oneTick_67 ?_
    refine r_iconst C0 70 2 dX5_oneTick_70 (by decide) ?_
    refine m_ld C0 71 2 rfl rfl (by decide) dX5_oneTick_71 ?_
    refine r_iconst C0 72 1 dX5_oneTick_72 (by decide) ?_
    refine r_isub C0 73 dX5_oneTick_73 ?_
    refine r_istore_n (lv' := [(0, _), (2, _)]) C0 74 2 dX5_oneTick_74 rfl rfl (by decide) rfl ?_
    refine r_iload_n C0 75 2 dX5_oneTick_75 rfl rfl ?_
    refine r_if_lt C0 76 106 dX5_oneTick_76 (by decide) (fun c_76 => ?_) (fun c_76 => ?_)
    · refine m_eq ?_ (r_drop C0 ?_ h106)
      · rw [← hta]
        simp only [s3M, eq_true c_76]
        rfl
      · simp
    · obtain ⟨heE, hve⟩ := hN.egg hE (k := 2) (by decide) c_76
      rw [hve]
      refine r_aload_n C0 79 0 dX5_oneTick_79 rfl rfl ?_
      refine m_getA C0 80 6 (by decide) fl5_25 rfl dX5_oneTick_80 ?_
      refine r_iload_n C0 83 2 dX5_oneTick_83 rfl rfl ?_
      refine r_aload_n C0 84 0 dX5_oneTick_84 rfl rfl ?_
      refine m_getA C0 85 2 (by decide) fl5_13 rfl dX5_oneTick_85 ?_
      refine r_iload_n C0 88 2 dX5_oneTick_88 rfl rfl ?_
      refine m_ld C0 89 (eN N 2) rfl rfl (show eN N 2 < 600 by omega) dX5_oneTick_89 ?_
      refine r_aload_n C0 90 0 dX5_oneTick_90 rfl rfl ?_
      refine m_getI C0 91 36 rfl fl5_144 rfl dX5_oneTick_91 ?_
      refine r_iadd C0 94 dX5_oneTick_94 ?_
      refine m_st C0 95 (eN N 2) rfl rfl (show eN N 2 < 600 by omega) dX5_oneTick_95 ?_
      refine r_aload_n C0 96 0 dX5_oneTick_96 rfl rfl ?_
      refine m_getA C0 97 7 (by decide) fl5_28 rfl dX5_oneTick_97 ?_
      refine r_iload_n C0 100 2 dX5_oneTick_100 rfl rfl ?_
      refine r_aload_n C0 101 0 dX5_oneTick_101 rfl rfl ?_
      refine m_getI C0 102 35 rfl fl5_98 rfl dX5_oneTick_102 ?_
      refine m_st C0 105 (eN N 2) rfl rfl (show eN N 2 < 600 by omega) dX5_oneTick_105 ?_
      refine m_eq ?_ (r_drop C0 ?_ h106)
      · rw [← hta]
        simp only [s3M, eq_false c_76]
        rfl
      · simp
  have h35 : j (mW ar h1 ad (mvS (s1M M) 0) T) 0 0 35 [(0, .ref h1), (2, .int (nI 15))] [] := by
    generalize s1M M = N at h66 ⊢
    refine loopUp (P := 15) (f := fun d => j (mW ar h1 ad (mvS N d) T) 0 0 35 [(0, .ref h1), (2, .int (nI (15 - d)))] []) (fun d hd ih => ?_) 0 (Nat.zero_le _)
    refine r_iload_n C0 35 2 dX5_oneTick_35 rfl rfl ?_
    refine r_if_le C0 36 59 dX5_oneTick_36 (by decide) (fun c_36 => ?_) (fun c_36 => ?_)
    · have hd15 : 15 ≤ d := Nat.le_of_not_lt (fun q => (nI_nle (n := 15 - d) (by omega) (by omega)) c_36)
      have e9 : d = 15 := by omega
      subst e9
      refine r_aload_n C0 59 0 dX5_oneTick_59 rfl rfl ?_
      refine m_getA C0 60 10 (by decide) fl5_34 rfl dX5_oneTick_60 ?_
      refine r_iconst C0 63 0 dX5_oneTick_63 (by decide) ?_
      refine r_iconst C0 64 0 dX5_oneTick_64 (by decide) ?_
      refine m_st C0 65 0 rfl rfl (by decide) dX5_oneTick_65 ?_
      refine m_eq (s2M_eq N) (r_drop C0 ?_ h66)
      simp
    · have hlt : d < 15 := Nat.lt_of_not_le (fun q => c_36 (by rw [show 15 - d = 0 by omega]; decide))
      have hd0 : 0 < 15 - d := by omega
      refine r_aload_n C0 39 0 dX5_oneTick_39 rfl rfl ?_
      refine m_getA C0 40 10 (by decide) fl5_34 rfl dX5_oneTick_40 ?_
      refine r_iload_n C0 43 2 dX5_oneTick_43 rfl rfl ?_
      refine r_aload_n C0 44 0 dX5_oneTick_44 rfl rfl ?_
      refine m_getA C0 45 10 (by decide) fl5_34 rfl dX5_oneTick_45 ?_
      refine r_iload_n C0 48 2 dX5_oneTick_48 rfl rfl ?_
      refine r_iconst C0 49 1 dX5_oneTick_49 (by decide) ?_
      refine r_isub C0 50 dX5_oneTick_50 ?_
      refine m_ldv C0 51 (15 - d - 1) (N 10 (15 - d - 1)) rfl (nI_pr rfl hd0) (show _ < 16 by omega) (mvS_r N) dX5_oneTick_51 ?_
      refine m_st C0 52 (15 - d) rfl rfl (show _ < 16 by omega) dX5_oneTick_52 ?_
      refine r_iinc (lv' := [(0, _), (2, _)]) C0 53 _ dX5_oneTick_53 rfl rfl rfl (by decide) rfl ?_
      refine r_goto C0 56 35 dX5_oneTick_56 (by decide) ?_
      have h9 := ih hlt
      refine m_eq (N := mvS N (d + 1)) (mvS_s N hlt) ?_
      rw [show nI (15 - d) + Int32.ofInt (-1) = nI (15 - (d + 1)) by rw [show 15 - (d + 1) = 15 - d - 1 by omega]; exact sb_m1 hd0]
      exact h9
  show j _ 0 0 0 [(0, _)] []
  refine r_aload_n C0 0 0 dX5_oneTick_0 rfl rfl ?_
  refine m_getA C0 1 10 (by decide) fl5_34 rfl dX5_oneTick_1 ?_
  refine r_bipush C0 4 15 dX5_oneTick_4 (by decide) ?_
  refine m_ld C0 6 15 rfl rfl (by decide) dX5_oneTick_6 ?_
  refine r_iconst C0 7 1 dX5_oneTick_7 (by decide) ?_
  refine r_isub C0 8 dX5_oneTick_8 ?_
  refine r_istore_n (lv' := [(0, _), (1, _)]) C0 9 1 dX5_oneTick_9 rfl rfl (by decide) rfl ?_
  refine r_iload_n C0 10 1 dX5_oneTick_10 rfl rfl ?_
  refine r_if_lt C0 11 32 dX5_oneTick_11 (by decide) (fun c_11 => ?_) (fun c_11 => ?_)
  · refine r_bipush C0 32 15 dX5_oneTick_32 (by decide) ?_
    refine r_istore_n (lv' := [(0, _), (1, _), (2, _)]) C0 34 2 dX5_oneTick_34 rfl rfl (by decide) rfl ?_
    refine m_eq ?_ (r_drop C0 ?_ h35)
    · rw [mvS_0]
      simp only [s1M, eq_true c_11]
      rfl
    · simp [show (15 : Int32) = nI 15 from rfl]
  · obtain ⟨heE, hve⟩ := h.egg hE (k := 15) (by decide) c_11
    rw [hve]
    obtain ⟨b, hb4, hb0⟩ := h.2.2.2.2.2 _ heE
    have hbN : bN M (eN M 15) = b := by unfold bN; rw [hb0]; exact nI_clamp (by omega)
    have hb : M 1 (eN M 15) = nI (bN M (eN M 15)) := by rw [hbN]; exact hb0
    refine r_aload_n C0 14 0 dX5_oneTick_14 rfl rfl ?_
    refine m_getA C0 15 15 (by decide) fl5_43 rfl dX5_oneTick_15 ?_
    refine r_bipush C0 18 8 dX5_oneTick_18 (by decide) ?_
    refine r_aload_n C0 20 0 dX5_oneTick_20 rfl rfl ?_
    refine m_getA C0 21 1 (by decide) fl5_7 rfl dX5_oneTick_21 ?_
    refine r_iload_n C0 24 1 dX5_oneTick_24 rfl rfl ?_
    refine m_ld C0 25 (eN M 15) rfl rfl (show eN M 15 < 600 by omega) dX5_oneTick_25 ?_
    refine r_iadd C0 26 dX5_oneTick_26 ?_
    refine r_dup2 C0 27 dX5_oneTick_27 rfl rfl ?_
    refine m_ld C0 28 (8 + bN M (eN M 15)) rfl (nI_add' (a := 8) rfl hb) (show _ < 20 by omega) dX5_oneTick_28 ?_
    refine r_iconst C0 29 1 dX5_oneTick_29 (by decide) ?_
    refine r_iadd C0 30 dX5_oneTick_30 ?_
    refine m_st C0 31 (8 + bN M (eN M 15)) rfl (nI_add' (a := 8) rfl hb) (show _ < 20 by omega) dX5_oneTick_31 ?_
    refine r_bipush C0 32 15 dX5_oneTick_32 (by decide) ?_
    refine r_istore_n (lv' := [(0, _), (1, _), (2, _)]) C0 34 2 dX5_oneTick_34 rfl rfl (by decide) rfl ?_
    refine m_eq ?_ (r_drop C0 ?_ h35)
    · rw [mvS_0]
      simp only [s1M, eq_false c_11]
      rfl
    · simp [show (15 : Int32) = nI 15 from rfl]
set_option maxRecDepth 100000 in
theorem k5_tick (hX : Xok X) {E : Nat} (hE : E ≤ 600) (h : OKM M E) (n : Int32)  : Cn D ar X yX5_tick cX5_tick 3 (some .int) 4 86 0 0 [.ref h1, .int n] (mW ar h1 ad M T) (fun r w => r = some (.int (tikA M T n)) ∧ w = mW ar h1 ad (tikM M T n).1 (tikM M T n).2) := by
  refine Cn.of (own := RX5) hX (by decide) rfl (Nat.le_of_ble_eq_true rfl) (fun j C => ?_)
  have C0 := C.to
  show j _ 0 0 0 [(0, _), (1, _)] []
  refine r_iload_n C0 0 1 dX5_tick_0 rfl rfl ?_
  refine r_iconst C0 1 1 dX5_tick_1 (by decide) ?_
  refine r_bipush C0 2 40 dX5_tick_2 (by decide) ?_
  refine s_call (As := [.int _, .int _, .int _]) C0 4 3 (k5_in hX _ _ _ _) (rm5_in (by decide) (by decide) (Nat.le_refl _) (Nat.le_refl _)) ml5_102 st5_in rfl (Nat.le_of_ble_eq_true rfl) dX5_tick_4 ?_
  rintro _ _ ⟨rfl, rfl⟩
  refine r_if_ne C0 7 12 dX5_tick_7 (by decide) (fun c_7 => ?_) (fun c_7 => ?_)
  · obtain ⟨x, hx, rfl⟩ := inR_1x (n := 40) rfl c_7
    have hcl : (nI x).toNatClampNeg = x := nI_clamp (by omega)
    refine r_iconst C0 12 0 dX5_tick_12 (by decide) ?_
    refine r_istore_n (lv' := [(0, _), (1, _), (2, _)]) C0 13 2 dX5_tick_13 rfl rfl (by decide) rfl ?_
    refine loopUp (P := x) (f := fun i => j (mW ar h1 ad (tikN M T i).1 (tikN M T i).2) 0 0 14 [(0, .ref h1), (1, .int (nI x)), (2, .int (nI i))] []) (fun i hi ih => ?_) 0 (Nat.zero_le _)
    refine r_iload_n C0 14 2 dX5_tick_14 rfl rfl ?_
    refine r_iload_n C0 15 1 dX5_tick_15 rfl rfl ?_
    refine r_icmp_ge C0 16 29 dX5_tick_16 (by decide) (fun c_16 => ?_) (fun c_16 => ?_)
    · have hge : x ≤ i := (nI_leI (by omega) (by omega)).mp c_16
      have e9 : i = x := by omega
      refine r_aload_n C0 29 0 dX5_tick_29 rfl rfl ?_
      refine m_getI C0 30 35 rfl fl5_98 rfl dX5_tick_30 ?_
      refine r_iret C 33 dX5_tick_33 (Nat.le_refl _) (Nat.le_refl _) ?_
      rw [e9]
      exact ⟨by simp only [tikA, hcl, eq_false c_7]; rfl, by simp only [tikM, hcl, eq_false c_7]; rfl⟩
    · have hlt : i < x := Nat.lt_of_not_le (fun q => c_16 (nI_le q (by omega)))
      refine r_aload_n C0 19 0 dX5_tick_19 rfl rfl ?_
      refine m_call (As := []) C0 20 0 (k5_oneTick hX hE (tikN_ok h hE i)) (rm5_oneTick (by decide) (by decide) (Nat.le_refl _) (Nat.le_refl _)) ml5_156 im5_oneTick se5_oneTick rfl (Nat.le_of_ble_eq_true rfl) dX5_tick_20 ?_
      rintro _ _ ⟨rfl, rfl⟩
      refine r_iinc (lv' := [(0, _), (1, _), (2, _)]) C0 23 _ dX5_tick_23 rfl rfl rfl (by decide) rfl ?_
      refine r_goto C0 26 14 dX5_tick_26 (by decide) ?_
      have h9 := ih hlt
      rw [← nI_1 i] at h9
      exact h9
  · refine r_iconst C0 10 (-1) dX5_tick_10 (by decide) ?_
    refine r_iret C 11 dX5_tick_11 (Nat.le_refl _) (Nat.le_refl _) ?_
    exact ⟨by simp only [tikA, eq_true c_7]; rfl, by simp only [tikM, eq_true c_7]; rfl⟩
end M12
