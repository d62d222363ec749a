/-! the model: pack, told, order, serve -/
theorem selN_n {M : Nat → Nat → Int32} {g o lf sd : Int32} {f : Nat} (hf : f ≠ 28) : ∀ p, (selN M g o lf sd p).1 f = M f := fun p => by
  induction p with
  | zero => rfl
  | succ p ih =>
    show (seq1 M g o p (selN M g o lf sd p)).1 f = M f
    unfold seq1
    split
    · exact ih
    · split
      · split
        · exact ih
        · show up2 _ 28 p o f = M f
          rw [up2_n hf]; exact ih
      · exact ih
theorem selN_stop {M : Nat → Nat → Int32} {g o lf sd : Int32} {p : Nat} (h : (selN M g o lf sd p).2.1 ≤ 0) : ∀ d, selN M g o lf sd (p + d) = selN M g o lf sd p := fun d => by
  induction d with
  | zero => rfl
  | succ d ih =>
    show seq1 M g o (p + d) (selN M g o lf sd (p + d)) = _
    rw [ih]
    unfold seq1
    rw [if_pos h]
theorem serN_n {M : Nat → Nat → Int32} {z : Int32} {P : Nat} {f : Nat} (hf : f ≠ 28) (hf2 : f ≠ 34) : ∀ o, (serN M z P o).1 f = M f := fun o => by
  induction o with
  | zero => rfl
  | succ o ih =>
    show (if bitN z o = 1 then _ else _ : (Nat → Nat → Int32) × Int32).1 f = M f
    split
    · show up2 _ 34 o 1 f = M f
      rw [up2_n hf2, selN_n hf]; exact ih
    · exact ih

section M8
variable {D : va_G} {ar : Nat → ClassId} {X : XT} {h1 : Nat} {ad : Nat → Nat} {M : Nat → Nat → Int32} {T : Int64}
theorem k5_pack (hX : Xok X) {P : Nat} (hP : M 21 0 = nI P) (hP6 : P ≤ 60) (p wh : Int32)  : Cn D ar X yX5_pack cX5_pack 3 (some .int) 2 43 0 0 [.ref h1, .int p, .int wh] (mW ar h1 ad M T) (fun r w => r = some (.int (pckA M p wh)) ∧ w = mW ar h1 ad M T) := by
  refine Cn.of (own := RX5) hX (by decide) rfl (Nat.le_of_ble_eq_true rfl) (fun j C => ?_)
  have C0 := C.to
  show j _ 0 0 0 [(0, _), (1, _), (2, _)] []
  refine r_aload_n C0 0 0 dX5_pack_0 rfl rfl ?_
  refine r_iload_n C0 1 1 dX5_pack_1 rfl rfl ?_
  refine m_call (As := [.int _]) C0 2 1 (k5_isPack hX _) (rm5_isPack (by decide) (by decide) (Nat.le_refl _) (Nat.le_refl _)) ml5_166 im5_isPack se5_isPack rfl (Nat.le_of_ble_eq_true rfl) dX5_pack_2 ?_
  rintro _ _ ⟨rfl, rfl⟩
  refine r_if_ne C0 5 10 dX5_pack_5 (by decide) (fun c_5 => ?_) (fun c_5 => ?_)
  · rw [hP] at c_5
    obtain ⟨x, hx, rfl⟩ : ∃ x : Nat, x < P ∧ p = nI x := inR_p (by omega) c_5
    have hcl : (nI x).toNatClampNeg = x := nI_clamp (by omega)
    refine r_iload_n C0 10 2 dX5_pack_10 rfl rfl ?_
    rcases swc 8 (by decide) wh with ⟨i, hi, rfl⟩ | ho
    · rcases (show i = 0 ∨ i = 1 ∨ i = 2 ∨ i = 3 ∨ i = 4 ∨ i = 5 ∨ i = 6 ∨ i = 7 by omega) with rfl | rfl | rfl | rfl | rfl | rfl | rfl | rfl
      · refine r_tableIn C0 11 56 dX5_pack_11 (by decide) (by decide) rfl (by decide) ?_
        refine r_aload_n C0 56 0 dX5_pack_56 rfl rfl ?_
        refine m_getA C0 57 22 (by decide) fl5_62 rfl dX5_pack_57 ?_
        refine r_iload_n C0 60 1 dX5_pack_60 rfl rfl ?_
        refine m_ld C0 61 x rfl rfl (show x < 60 by omega) dX5_pack_61 ?_
        refine r_iret C 62 dX5_pack_62 (Nat.le_refl _) (Nat.le_refl _) ?_
        exact ⟨by simp only [pckA, hP, hcl, eq_false c_5]; rfl, rfl⟩
      · refine r_tableIn C0 11 63 dX5_pack_11 (by decide) (by decide) rfl (by decide) ?_
        refine r_aload_n C0 63 0 dX5_pack_63 rfl rfl ?_
        refine m_getA C0 64 23 (by decide) fl5_65 rfl dX5_pack_64 ?_
        refine r_iload_n C0 67 1 dX5_pack_67 rfl rfl ?_
        refine m_ld C0 68 x rfl rfl (show x < 60 by omega) dX5_pack_68 ?_
        refine r_iret C 69 dX5_pack_69 (Nat.le_refl _) (Nat.le_refl _) ?_
        exact ⟨by simp only [pckA, hP, hcl, eq_false c_5]; rfl, rfl⟩
      · refine r_tableIn C0 11 70 dX5_pack_11 (by decide) (by decide) rfl (by decide) ?_
        refine r_aload_n C0 70 0 dX5_pack_70 rfl rfl ?_
        refine m_getA C0 71 24 (by decide) fl5_68 rfl dX5_pack_71 ?_
        refine r_iload_n C0 74 1 dX5_pack_74 rfl rfl ?_
        refine m_ld C0 75 x rfl rfl (show x < 60 by omega) dX5_pack_75 ?_
        refine r_iret C 76 dX5_pack_76 (Nat.le_refl _) (Nat.le_refl _) ?_
        exact ⟨by simp only [pckA, hP, hcl, eq_false c_5]; rfl, rfl⟩
      · refine r_tableIn C0 11 77 dX5_pack_11 (by decide) (by decide) rfl (by decide) ?_
        refine r_aload_n C0 77 0 dX5_pack_77 rfl rfl ?_
        refine m_getA C0 78 25 (by decide) fl5_71 rfl dX5_pack_78 ?_
        refine r_iload_n C0 81 1 dX5_pack_81 rfl rfl ?_
        refine m_ld C0 82 x rfl rfl (show x < 60 by omega) dX5_pack_82 ?_
        refine r_iret C 83 dX5_pack_83 (Nat.le_refl _) (Nat.le_refl _) ?_
        exact ⟨by simp only [pckA, hP, hcl, eq_false c_5]; rfl, rfl⟩
      · refine r_tableIn C0 11 84 dX5_pack_11 (by decide) (by decide) rfl (by decide) ?_
        refine r_aload_n C0 84 0 dX5_pack_84 rfl rfl ?_
        refine m_getA C0 85 28 (by decide) fl5_80 rfl dX5_pack_85 ?_
        refine r_iload_n C0 88 1 dX5_pack_88 rfl rfl ?_
        refine m_ld C0 89 x rfl rfl (show x < 60 by omega) dX5_pack_89 ?_
        refine r_iret C 90 dX5_pack_90 (Nat.le_refl _) (Nat.le_refl _) ?_
        exact ⟨by simp only [pckA, hP, hcl, eq_false c_5]; rfl, rfl⟩
      · refine r_tableIn C0 11 91 dX5_pack_11 (by decide) (by decide) rfl (by decide) ?_
        refine r_aload_n C0 91 0 dX5_pack_91 rfl rfl ?_
        refine m_getA C0 92 29 (by decide) fl5_83 rfl dX5_pack_92 ?_
        refine r_iload_n C0 95 1 dX5_pack_95 rfl rfl ?_
        refine m_ldz C0 96 x rfl rfl (show x < 60 by omega) dX5_pack_96 ?_
        refine r_if_eq C0 97 104 dX5_pack_97 (by decide) (fun c_97 => ?_) (fun c_97 => ?_)
        · refine r_iconst C0 104 0 dX5_pack_104 (by decide) ?_
          refine r_iret C 105 dX5_pack_105 (Nat.le_refl _) (Nat.le_refl _) ?_
          exact ⟨by simp only [pckA, hP, hcl, eq_false c_5, eq_true c_97]; rfl, rfl⟩
        · refine r_iconst C0 100 1 dX5_pack_100 (by decide) ?_
          refine r_goto C0 101 105 dX5_pack_101 (by decide) ?_
          refine r_iret C 105 dX5_pack_105 (Nat.le_refl _) (Nat.le_refl _) ?_
          exact ⟨by simp only [pckA, hP, hcl, eq_false c_5, eq_false c_97]; rfl, rfl⟩
      · refine r_tableIn C0 11 106 dX5_pack_11 (by decide) (by decide) rfl (by decide) ?_
        refine r_aload_n C0 106 0 dX5_pack_106 rfl rfl ?_
        refine m_getA C0 107 26 (by decide) fl5_74 rfl dX5_pack_107 ?_
        refine r_iload_n C0 110 1 dX5_pack_110 rfl rfl ?_
        refine m_ld C0 111 x rfl rfl (show x < 60 by omega) dX5_pack_111 ?_
        refine r_iret C 112 dX5_pack_112 (Nat.le_refl _) (Nat.le_refl _) ?_
        exact ⟨by simp only [pckA, hP, hcl, eq_false c_5]; rfl, rfl⟩
      · refine r_tableIn C0 11 113 dX5_pack_11 (by decide) (by decide) rfl (by decide) ?_
        refine r_aload_n C0 113 0 dX5_pack_113 rfl rfl ?_
        refine m_getA C0 114 27 (by decide) fl5_77 rfl dX5_pack_114 ?_
        refine r_iload_n C0 117 1 dX5_pack_117 rfl rfl ?_
        refine m_ld C0 118 x rfl rfl (show x < 60 by omega) dX5_pack_118 ?_
        refine r_iret C 119 dX5_pack_119 (Nat.le_refl _) (Nat.le_refl _) ?_
        exact ⟨by simp only [pckA, hP, hcl, eq_false c_5]; rfl, rfl⟩
    · refine r_tableOut C0 11 120 dX5_pack_11 ho (by decide) ?_
      refine r_iconst C0 120 (-1) dX5_pack_120 (by decide) ?_
      refine r_iret C 121 dX5_pack_121 (Nat.le_refl _) (Nat.le_refl _) ?_
      exact ⟨by simp [pckA, hP, swn ho (c := 0) (by decide), swn ho (c := 1) (by decide), swn ho (c := 2) (by decide), swn ho (c := 3) (by decide), swn ho (c := 4) (by decide), swn ho (c := 5) (by decide), swn ho (c := 6) (by decide), swn ho (c := 7) (by decide), eq_false c_5], rfl⟩
  · rw [hP] at c_5
    refine r_iconst C0 8 (-1) dX5_pack_8 (by decide) ?_
    refine r_iret C 9 dX5_pack_9 (Nat.le_refl _) (Nat.le_refl _) ?_
    exact ⟨by simp [pckA, hP, eq_true c_5], rfl⟩
theorem k5_told (hX : Xok X) {P : Nat} (hP : M 21 0 = nI P) (hP6 : P ≤ 60) (wh : Int32)  : Cn D ar X yX5_told cX5_told 4 (some .int) 0 0 0 0 [.ref h1, .int wh] (mW ar h1 ad M T) (fun r w => r = some (.int (tldA M P wh)) ∧ w = mW ar h1 ad M T) := by
  refine Cn.of (own := RX5) hX (by decide) rfl (Nat.le_of_ble_eq_true rfl) (fun j C => ?_)
  have C0 := C.to
  show j _ 0 0 0 [(0, _), (1, _)] []
  refine r_iconst C0 0 0 dX5_told_0 (by decide) ?_
  refine r_istore_n (lv' := [(0, _), (1, _), (2, _)]) C0 1 2 dX5_told_1 rfl rfl (by decide) rfl ?_
  refine r_iload_n C0 2 1 dX5_told_2 rfl rfl ?_
  rcases swc 6 (by decide) wh with ⟨i, hi, rfl⟩ | ho
  · rcases (show i = 0 ∨ i = 1 ∨ i = 2 ∨ i = 3 ∨ i = 4 ∨ i = 5 by omega) with rfl | rfl | rfl | rfl | rfl | rfl
    · refine r_tableIn C0 3 40 dX5_told_3 (by decide) (by decide) rfl (by decide) ?_
      refine r_aload_n C0 40 0 dX5_told_40 rfl rfl ?_
      refine m_getI C0 41 21 rfl fl5_135 rfl dX5_told_41 ?_
      refine r_iret C 44 dX5_told_44 (Nat.le_refl _) (Nat.le_refl _) ?_
      exact ⟨rfl, rfl⟩
    · refine r_tableIn C0 3 45 dX5_told_3 (by decide) (by decide) rfl (by decide) ?_
      refine r_aload_n C0 45 0 dX5_told_45 rfl rfl ?_
      refine m_getI C0 46 30 rfl fl5_175 rfl dX5_told_46 ?_
      refine r_iret C 49 dX5_told_49 (Nat.le_refl _) (Nat.le_refl _) ?_
      exact ⟨rfl, rfl⟩
    · refine r_tableIn C0 3 50 dX5_told_3 (by decide) (by decide) rfl (by decide) ?_
      refine r_iconst C0 50 0 dX5_told_50 (by decide) ?_
      refine r_istore_n (lv' := [(0, _), (1, _), (2, _), (3, _)]) C0 51 3 dX5_told_51 rfl rfl (by decide) rfl ?_
      refine loopUp (P := P) (f := fun i => j (mW ar h1 ad M T) 0 0 52 [(0, .ref h1), (1, .int (nI 2)), (2, .int (sldN M i)), (3, .int (nI i))] []) (fun i hi ih => ?_) 0 (Nat.zero_le _)
      refine r_iload_n C0 52 3 dX5_told_52 rfl rfl ?_
      refine r_aload_n C0 53 0 dX5_told_53 rfl rfl ?_
      refine m_getI C0 54 21 rfl fl5_135 rfl dX5_told_54 ?_
      refine r_icmp_ge C0 57 85 dX5_told_57 (by decide) (fun c_57 => ?_) (fun c_57 => ?_)
      · have hge : P ≤ i := (nI_leI (by omega) (by omega)).mp (by rw [← hP]; exact c_57)
        refine r_iload_n C0 85 2 dX5_told_85 rfl rfl ?_
        refine r_iret C 86 dX5_told_86 (Nat.le_refl _) (Nat.le_refl _) ?_
        have e : i = P := by omega
        subst e
        exact ⟨rfl, rfl⟩
      · have hlt : i < P := Nat.lt_of_not_le (fun q => c_57 (by rw [hP]; exact nI_le q (by omega)))
        refine r_iload_n C0 60 2 dX5_told_60 rfl rfl ?_
        refine r_aload_n C0 61 0 dX5_told_61 rfl rfl ?_
        refine m_getA C0 62 28 (by decide) fl5_80 rfl dX5_told_62 ?_
        refine r_iload_n C0 65 3 dX5_told_65 rfl rfl ?_
        refine m_ld C0 66 i rfl rfl (show i < 60 by omega) dX5_told_66 ?_
        refine r_bipush C0 67 (-9) dX5_told_67 (by decide) ?_
        refine r_icmp_ne C0 69 76 dX5_told_69 (by decide) (fun c_69 => ?_) (fun c_69 => ?_)
        · refine r_iconst C0 76 1 dX5_told_76 (by decide) ?_
          refine r_iadd C0 77 dX5_told_77 ?_
          refine r_istore_n (lv' := [(0, _), (1, _), (2, _), (3, _)]) C0 78 2 dX5_told_78 rfl rfl (by decide) rfl ?_
          refine r_iinc (lv' := [(0, _), (1, _), (2, _), (3, _)]) C0 79 _ dX5_told_79 rfl rfl rfl (by decide) rfl ?_
          refine r_goto C0 82 52 dX5_told_82 (by decide) ?_
          have h9 := ih hlt
          simp only [sldN, eq_false c_57, eq_false c_69] at h9
          simpa [nI_1] using h9
        · refine r_iconst C0 72 0 dX5_told_72 (by decide) ?_
          refine r_goto C0 73 77 dX5_told_73 (by decide) ?_
          refine r_iadd C0 77 dX5_told_77 ?_
          refine r_istore_n (lv' := [(0, _), (1, _), (2, _), (3, _)]) C0 78 2 dX5_told_78 rfl rfl (by decide) rfl ?_
          refine r_iinc (lv' := [(0, _), (1, _), (2, _), (3, _)]) C0 79 _ dX5_told_79 rfl rfl rfl (by decide) rfl ?_
          refine r_goto C0 82 52 dX5_told_82 (by decide) ?_
          have h9 := ih hlt
          simp only [sldN, eq_false c_57, eq_true c_69] at h9
          simpa [nI_1] using h9
    · refine r_tableIn C0 3 87 dX5_told_3 (by decide) (by decide) rfl (by decide) ?_
      refine r_iconst C0 87 0 dX5_told_87 (by decide) ?_
      refine r_istore_n (lv' := [(0, _), (1, _), (2, _), (3, _)]) C0 88 3 dX5_told_88 rfl rfl (by decide) rfl ?_
      refine loopUp (P := P) (f := fun i => j (mW ar h1 ad M T) 0 0 89 [(0, .ref h1), (1, .int (nI 3)), (2, .int (hldN M i)), (3, .int (nI i))] []) (fun i hi ih => ?_) 0 (Nat.zero_le _)
      refine r_iload_n C0 89 3 dX5_told_89 rfl rfl ?_
      refine r_aload_n C0 90 0 dX5_told_90 rfl rfl ?_
      refine m_getI C0 91 21 rfl fl5_135 rfl dX5_told_91 ?_
      refine r_icmp_ge C0 94 120 dX5_told_94 (by decide) (fun c_94 => ?_) (fun c_94 => ?_)
      · have hge : P ≤ i := (nI_leI (by omega) (by omega)).mp (by rw [← hP]; exact c_94)
        refine r_iload_n C0 120 2 dX5_told_120 rfl rfl ?_
        refine r_iret C 121 dX5_told_121 (Nat.le_refl _) (Nat.le_refl _) ?_
        have e : i = P := by omega
        subst e
        exact ⟨rfl, rfl⟩
      · have hlt : i < P := Nat.lt_of_not_le (fun q => c_94 (by rw [hP]; exact nI_le q (by omega)))
        refine r_iload_n C0 97 2 dX5_told_97 rfl rfl ?_
        refine r_aload_n C0 98 0 dX5_told_98 rfl rfl ?_
        refine m_getA C0 99 29 (by decide) fl5_83 rfl dX5_told_99 ?_
        refine r_iload_n C0 102 3 dX5_told_102 rfl rfl ?_
        refine m_ldz C0 103 i rfl rfl (show i < 60 by omega) dX5_told_103 ?_
        refine r_if_eq C0 104 111 dX5_told_104 (by decide) (fun c_104 => ?_) (fun c_104 => ?_)
        · refine r_iconst C0 111 0 dX5_told_111 (by decide) ?_
          refine r_iadd C0 112 dX5_told_112 ?_
          refine r_istore_n (lv' := [(0, _), (1, _), (2, _), (3, _)]) C0 113 2 dX5_told_113 rfl rfl (by decide) rfl ?_
          refine r_iinc (lv' := [(0, _), (1, _), (2, _), (3, _)]) C0 114 _ dX5_told_114 rfl rfl rfl (by decide) rfl ?_
          refine r_goto C0 117 89 dX5_told_117 (by decide) ?_
          have h9 := ih hlt
          simp only [hldN, eq_false c_94, eq_true c_104] at h9
          simpa [nI_1] using h9
        · refine r_iconst C0 107 1 dX5_told_107 (by decide) ?_
          refine r_goto C0 108 112 dX5_told_108 (by decide) ?_
          refine r_iadd C0 112 dX5_told_112 ?_
          refine r_istore_n (lv' := [(0, _), (1, _), (2, _), (3, _)]) C0 113 2 dX5_told_113 rfl rfl (by decide) rfl ?_
          refine r_iinc (lv' := [(0, _), (1, _), (2, _), (3, _)]) C0 114 _ dX5_told_114 rfl rfl rfl (by decide) rfl ?_
          refine r_goto C0 117 89 dX5_told_117 (by decide) ?_
          have h9 := ih hlt
          simp only [hldN, eq_false c_94, eq_false c_104] at h9
          simpa [nI_1] using h9
    · refine r_tableIn C0 3 122 dX5_told_3 (by decide) (by decide) rfl (by decide) ?_
      refine r_aload_n C0 122 0 dX5_told_122 rfl rfl ?_
      refine m_getI C0 123 35 rfl fl5_98 rfl dX5_told_123 ?_
      refine r_iret C 126 dX5_told_126 (Nat.le_refl _) (Nat.le_refl _) ?_
      exact ⟨rfl, rfl⟩
    · refine r_tableIn C0 3 127 dX5_told_3 (by decide) (by decide) rfl (by decide) ?_
      refine r_aload_n C0 127 0 dX5_told_127 rfl rfl ?_
      refine m_getI C0 128 36 rfl fl5_144 rfl dX5_told_128 ?_
      refine r_iret C 131 dX5_told_131 (Nat.le_refl _) (Nat.le_refl _) ?_
      exact ⟨rfl, rfl⟩
  · refine r_tableOut C0 3 132 dX5_told_3 ho (by decide) ?_
    refine r_sipush C0 132 (-1000) dX5_told_132 (by decide) ?_
    refine r_iret C 135 dX5_told_135 (Nat.le_refl _) (Nat.le_refl _) ?_
    exact ⟨by simp [tldA, swn ho (c := 0) (by decide), swn ho (c := 1) (by decide), swn ho (c := 2) (by decide), swn ho (c := 3) (by decide), swn ho (c := 4) (by decide), swn ho (c := 5) (by decide)], rfl⟩
theorem k5_order (hX : Xok X) {O : Nat} (hO : M 30 0 = nI O) (hO6 : O ≤ 6) (g n w9 : Int32)  : Cn D ar X yX5_order cX5_order 4 (some .int) 1 22 0 0 [.ref h1, .int g, .int n, .int w9] (mW ar h1 ad M T) (fun r w => r = some (.int (ordA M O g n w9).2) ∧ w = mW ar h1 ad (ordA M O g n w9).1 T) := by
  refine Cn.of (own := RX5) hX (by decide) rfl (Nat.le_of_ble_eq_true rfl) (fun j C => ?_)
  have C0 := C.to
  show j _ 0 0 0 [(0, _), (1, _), (2, _), (3, _)] []
  refine r_iload_n C0 0 1 dX5_order_0 rfl rfl ?_
  refine r_iconst C0 1 0 dX5_order_1 (by decide) ?_
  refine r_iconst C0 2 5 dX5_order_2 (by decide) ?_
  refine s_call (As := [.int _, .int _, .int _]) C0 3 3 (k5_in hX _ _ _ _) (rm5_in (by decide) (by decide) (Nat.le_refl _) (Nat.le_refl _)) ml5_102 st5_in rfl (Nat.le_of_ble_eq_true rfl) dX5_order_3 ?_
  rintro _ _ ⟨rfl, rfl⟩
  refine r_if_eq C0 6 30 dX5_order_6 (by decide) (fun c_6 => ?_) (fun c_6 => ?_)
  · refine r_iconst C0 30 (-1) dX5_order_30 (by decide) ?_
    refine r_iret C 31 dX5_order_31 (Nat.le_refl _) (Nat.le_refl _) ?_
    exact ⟨by simp [ordA, eq_true c_6], by simp [ordA, eq_true c_6]⟩
  · refine r_iload_n C0 9 2 dX5_order_9 rfl rfl ?_
    refine r_iconst C0 10 1 dX5_order_10 (by decide) ?_
    refine r_bipush C0 11 9 dX5_order_11 (by decide) ?_
    refine s_call (As := [.int _, .int _, .int _]) C0 13 3 (k5_in hX _ _ _ _) (rm5_in (by decide) (by decide) (Nat.le_refl _) (Nat.le_refl _)) ml5_102 st5_in rfl (Nat.le_of_ble_eq_true rfl) dX5_order_13 ?_
    rintro _ _ ⟨rfl, rfl⟩
    refine r_if_eq C0 16 30 dX5_order_16 (by decide) (fun c_16 => ?_) (fun c_16 => ?_)
    · refine r_iconst C0 30 (-1) dX5_order_30 (by decide) ?_
      refine r_iret C 31 dX5_order_31 (Nat.le_refl _) (Nat.le_refl _) ?_
      exact ⟨by simp [ordA, eq_false c_6, eq_true c_16], by simp [ordA, eq_false c_6, eq_true c_16]⟩
    · refine r_iload_n C0 19 3 dX5_order_19 rfl rfl ?_
      refine r_iconst C0 20 1 dX5_order_20 (by decide) ?_
      refine r_sipush C0 21 1000 dX5_order_21 (by decide) ?_
      refine s_call (As := [.int _, .int _, .int _]) C0 24 3 (k5_in hX _ _ _ _) (rm5_in (by decide) (by decide) (Nat.le_refl _) (Nat.le_refl _)) ml5_102 st5_in rfl (Nat.le_of_ble_eq_true rfl) dX5_order_24 ?_
      rintro _ _ ⟨rfl, rfl⟩
      refine r_if_ne C0 27 32 dX5_order_27 (by decide) (fun c_27 => ?_) (fun c_27 => ?_)
      · refine r_aload_n C0 32 0 dX5_order_32 rfl rfl ?_
        refine m_getI C0 33 30 rfl fl5_175 rfl dX5_order_33 ?_
        refine r_bipush C0 36 6 dX5_order_36 (by decide) ?_
        refine r_icmp_ne C0 38 44 dX5_order_38 (by decide) (fun c_38 => ?_) (fun c_38 => ?_)
        · have hlt : O < 6 := Nat.lt_of_le_of_ne hO6 (fun q => c_38 (by rw [hO, q]; rfl))
          refine r_aload_n C0 44 0 dX5_order_44 rfl rfl ?_
          refine m_getA C0 45 31 (by decide) fl5_86 rfl dX5_order_45 ?_
          refine r_aload_n C0 48 0 dX5_order_48 rfl rfl ?_
          refine m_getI C0 49 30 rfl fl5_175 rfl dX5_order_49 ?_
          refine r_iload_n C0 52 1 dX5_order_52 rfl rfl ?_
          refine m_st C0 53 O rfl hO hlt dX5_order_53 ?_
          refine r_aload_n C0 54 0 dX5_order_54 rfl rfl ?_
          refine m_getA C0 55 32 (by decide) fl5_89 rfl dX5_order_55 ?_
          refine r_aload_n C0 58 0 dX5_order_58 rfl rfl ?_
          refine m_getI C0 59 30 rfl fl5_175 rfl dX5_order_59 ?_
          refine r_iload_n C0 62 2 dX5_order_62 rfl rfl ?_
          refine m_st C0 63 O rfl hO hlt dX5_order_63 ?_
          refine r_aload_n C0 64 0 dX5_order_64 rfl rfl ?_
          refine m_getA C0 65 33 (by decide) fl5_92 rfl dX5_order_65 ?_
          refine r_aload_n C0 68 0 dX5_order_68 rfl rfl ?_
          refine m_getI C0 69 30 rfl fl5_175 rfl dX5_order_69 ?_
          refine r_iload_n C0 72 3 dX5_order_72 rfl rfl ?_
          refine m_st C0 73 O rfl hO hlt dX5_order_73 ?_
          refine r_aload_n C0 74 0 dX5_order_74 rfl rfl ?_
          refine m_getA C0 75 34 (by decide) fl5_95 rfl dX5_order_75 ?_
          refine r_aload_n C0 78 0 dX5_order_78 rfl rfl ?_
          refine m_getI C0 79 30 rfl fl5_175 rfl dX5_order_79 ?_
          refine r_iconst C0 82 0 dX5_order_82 (by decide) ?_
          refine m_stz C0 83 O rfl hO hlt rfl dX5_order_83 ?_
          refine r_aload_n C0 84 0 dX5_order_84 rfl rfl ?_
          refine r_dup C0 85 dX5_order_85 rfl ?_
          refine m_getI C0 86 30 rfl fl5_175 rfl dX5_order_86 ?_
          refine r_iconst C0 89 1 dX5_order_89 (by decide) ?_
          refine r_iadd C0 90 dX5_order_90 ?_
          refine m_put C0 91 30 rfl fl5_175 rfl dX5_order_91 ?_
          refine r_aload_n C0 94 0 dX5_order_94 rfl rfl ?_
          refine m_getI C0 95 30 rfl fl5_175 rfl dX5_order_95 ?_
          refine r_iconst C0 98 1 dX5_order_98 (by decide) ?_
          refine r_isub C0 99 dX5_order_99 ?_
          refine r_iret C 100 dX5_order_100 (Nat.le_refl _) (Nat.le_refl _) ?_
          exact ⟨by simp only [ordA, eq_false c_6, eq_false c_16, eq_false c_27, eq_false c_38]; rfl, by simp only [ordA, eq_false c_6, eq_false c_16, eq_false c_27, eq_false c_38]; rfl⟩
        · refine r_bipush C0 41 (-3) dX5_order_41 (by decide) ?_
          refine r_iret C 43 dX5_order_43 (Nat.le_refl _) (Nat.le_refl _) ?_
          exact ⟨by simp [ordA, eq_false c_6, eq_false c_16, eq_false c_27, eq_true c_38], by simp [ordA, eq_false c_6, eq_false c_16, eq_false c_27, eq_true c_38]⟩
      · refine r_iconst C0 30 (-1) dX5_order_30 (by decide) ?_
        refine r_iret C 31 dX5_order_31 (Nat.le_refl _) (Nat.le_refl _) ?_
        exact ⟨by simp [ordA, eq_false c_6, eq_false c_16, eq_true c_27], by simp [ordA, eq_false c_6, eq_false c_16, eq_true c_27]⟩
def srvA (M : Nat → Nat → Int32) (P O : Nat) : (Nat → Nat → Int32) × Int32 := serN M (bestS M P O) P O
theorem k5_serve (hX : Xok X) {P O : Nat} (hP : M 21 0 = nI P) (hP6 : P ≤ 60) (hO : M 30 0 = nI O) (hO6 : O ≤ 6)  : Cn D ar X yX5_serve cX5_serve 6 (some .int) 4 91 0 0 [.ref h1] (mW ar h1 ad M T) (fun r w => r = some (.int (srvA M P O).2) ∧ w = mW ar h1 ad (srvA M P O).1 T) := by
  refine Cn.of (own := RX5) hX (by decide) rfl (Nat.le_of_ble_eq_true rfl) (fun j C => ?_)
  have C0 := C.to
  show j _ 0 0 0 [(0, _)] []
  refine r_aload_n C0 0 0 dX5_serve_0 rfl rfl ?_
  refine m_call (As := []) C0 1 0 (k5_bestSet hX hP hP6 hO hO6) (rm5_bestSet (by decide) (by decide) (Nat.le_refl _) (Nat.le_refl _)) ml5_184 im5_bestSet se5_bestSet rfl (Nat.le_of_ble_eq_true rfl) dX5_serve_1 ?_
  rintro _ _ ⟨rfl, rfl⟩
  refine r_istore_n (lv' := [(0, _), (1, _)]) C0 4 1 dX5_serve_4 rfl rfl (by decide) rfl ?_
  refine r_iconst C0 5 0 dX5_serve_5 (by decide) ?_
  refine r_istore_n (lv' := [(0, _), (1, _), (2, _)]) C0 6 2 dX5_serve_6 rfl rfl (by decide) rfl ?_
  refine r_iconst C0 7 0 dX5_serve_7 (by decide) ?_
  refine r_istore_n (lv' := [(0, _), (1, _), (2, _), (3, _)]) C0 8 3 dX5_serve_8 rfl rfl (by decide) rfl ?_
  generalize hz : bestS M P O = z
  have hgoal : srvA M P O = serN M z P O := by unfold srvA; rw [hz]
  have hO9 : ∀ i, (serN M z P i).1 30 0 = nI O := fun i => by rw [serN_n (by decide) (by decide)]; exact hO
  have hP9 : ∀ (i q : Nat), (selN (serN M z P i).1 ((serN M z P i).1 31 i) (nI i) ((serN M z P i).1 32 i) (serN M z P i).2 q).1 21 0 = nI P := fun i q => by rw [selN_n (by decide), serN_n (by decide) (by decide)]; exact hP
  refine loopUp (P := O) (f := fun i => j (mW ar h1 ad (serN M z P i).1 T) 0 0 9 [(0, .ref h1), (1, .int z), (2, .int (serN M z P i).2), (3, .int (nI i))] []) (fun i hi ih => ?_) 0 (Nat.zero_le _)
  refine r_iload_n C0 9 3 dX5_serve_9 rfl rfl ?_
  refine r_aload_n C0 10 0 dX5_serve_10 rfl rfl ?_
  refine m_getI C0 11 30 rfl fl5_175 rfl dX5_serve_11 ?_
  refine r_icmp_ge C0 14 109 dX5_serve_14 (by decide) (fun c_14 => ?_) (fun c_14 => ?_)
  · have hge : O ≤ i := (nI_leI (by omega) (by omega)).mp (by rw [← hO9 i]; exact c_14)
    refine r_iload_n C0 109 2 dX5_serve_109 rfl rfl ?_
    refine r_iret C 110 dX5_serve_110 (Nat.le_refl _) (Nat.le_refl _) ?_
    have e : i = O := by omega
    subst e
    rw [hgoal]
    exact ⟨rfl, rfl⟩
  · have hlt : i < O := Nat.lt_of_not_le (fun q => c_14 (by rw [hO9 i]; exact nI_le q (by omega)))
    refine r_iload_n C0 17 1 dX5_serve_17 rfl rfl ?_
    refine r_iload_n C0 18 3 dX5_serve_18 rfl rfl ?_
    refine r_ishr C0 19 dX5_serve_19 ?_
    refine r_iconst C0 20 1 dX5_serve_20 (by decide) ?_
    refine r_iand C0 21 dX5_serve_21 ?_
    refine r_iconst C0 22 1 dX5_serve_22 (by decide) ?_
    refine r_icmp_ne C0 23 103 dX5_serve_23 (by decide) (fun c_23 => ?_) (fun c_23 => ?_)
    · refine r_iinc (lv' := [(0, _), (1, _), (2, _), (3, _)]) C0 103 _ dX5_serve_103 rfl rfl rfl (by decide) rfl ?_
      refine r_goto C0 106 9 dX5_serve_106 (by decide) ?_
      have h9 := ih hlt
      have e9 : serN M z P (i + 1) = serN M z P i := by
        show (if bitN z i = 1 then _ else _ : (Nat → Nat → Int32) × Int32) = _
        rw [if_neg (show ¬ bitN z i = 1 from c_23)]
      rw [e9, ← nI_1] at h9
      exact h9
    · refine r_aload_n C0 26 0 dX5_serve_26 rfl rfl ?_
      refine m_getA C0 27 32 (by decide) fl5_89 rfl dX5_serve_27 ?_
      refine r_iload_n C0 30 3 dX5_serve_30 rfl rfl ?_
      refine m_ld C0 31 i rfl rfl (show i < 6 by omega) dX5_serve_31 ?_
      refine r_istore (lv' := [(0, _), (1, _), (2, _), (3, _), (4, _)]) C0 32 dX5_serve_32 rfl (by decide) rfl ?_
      refine r_iconst C0 34 0 dX5_serve_34 (by decide) ?_
      refine r_istore (lv' := [(0, _), (1, _), (2, _), (3, _), (4, _), (5, _)]) C0 35 dX5_serve_35 rfl (by decide) rfl ?_
      refine loopUp (P := P) (f := fun q => j (mW ar h1 ad (selN (serN M z P i).1 ((serN M z P i).1 31 i) (nI i) ((serN M z P i).1 32 i) (serN M z P i).2 q).1 T) 0 0 37 [(0, .ref h1), (1, .int z), (2, .int (selN (serN M z P i).1 ((serN M z P i).1 31 i) (nI i) ((serN M z P i).1 32 i) (serN M z P i).2 q).2.2), (3, .int (nI i)), (4, .int (selN (serN M z P i).1 ((serN M z P i).1 31 i) (nI i) ((serN M z P i).1 32 i) (serN M z P i).2 q).2.1), (5, .int (nI q))] []) (fun q hq ihq => ?_) 0 (Nat.zero_le _)
      refine r_iload C0 37 dX5_serve_37 rfl ?_
      refine r_aload_n C0 39 0 dX5_serve_39 rfl rfl ?_
      refine m_getI C0 40 21 rfl fl5_135 rfl dX5_serve_40 ?_
      refine r_icmp_ge C0 43 96 dX5_serve_43 (by decide) (fun c_43 => ?_) (fun c_43 => ?_)
      · have hge : P ≤ q := (nI_leI (by omega) (by omega)).mp (by rw [← hP9 i q]; exact c_43)
        have e8 : q = P := by omega
        rw [e8]
        refine r_aload_n C0 96 0 dX5_serve_96 rfl rfl ?_
        refine m_getA C0 97 34 (by decide) fl5_95 rfl dX5_serve_97 ?_
        refine r_iload_n C0 100 3 dX5_serve_100 rfl rfl ?_
        refine r_iconst C0 101 1 dX5_serve_101 (by decide) ?_
        refine m_stz C0 102 i rfl rfl (show i < 6 by omega) rfl dX5_serve_102 ?_
        refine r_iinc (lv' := [(0, _), (1, _), (2, _), (3, _), (4, _), (5, _)]) C0 103 _ dX5_serve_103 rfl rfl rfl (by decide) rfl ?_
        refine r_goto C0 106 9 dX5_serve_106 (by decide) ?_
        have h9 := ih hlt
        have e9 : serN M z P (i + 1) = (up2 (selN (serN M z P i).1 ((serN M z P i).1 31 i) (nI i) ((serN M z P i).1 32 i) (serN M z P i).2 P).1 34 i 1, (selN (serN M z P i).1 ((serN M z P i).1 31 i) (nI i) ((serN M z P i).1 32 i) (serN M z P i).2 P).2.2) := by
          show (if bitN z i = 1 then _ else _ : (Nat → Nat → Int32) × Int32) = _
          rw [if_pos (show bitN z i = 1 from c_23)]
        rw [e9, ← nI_1] at h9
        refine r_drop C0 ?_ h9
        simp
      · have hltq : q < P := Nat.lt_of_not_le (fun r => c_43 (by rw [hP9 i q]; exact nI_le r (by omega)))
        refine r_iload C0 46 dX5_serve_46 rfl ?_
        refine r_if_le C0 48 96 dX5_serve_48 (by decide) (fun c_48 => ?_) (fun c_48 => ?_)
        · have e8 := selN_stop c_48 (P - q)
          rw [show q + (P - q) = P by omega] at e8
          rw [← e8]
          refine r_aload_n C0 96 0 dX5_serve_96 rfl rfl ?_
          refine m_getA C0 97 34 (by decide) fl5_95 rfl dX5_serve_97 ?_
          refine r_iload_n C0 100 3 dX5_serve_100 rfl rfl ?_
          refine r_iconst C0 101 1 dX5_serve_101 (by decide) ?_
          refine m_stz C0 102 i rfl rfl (show i < 6 by omega) rfl dX5_serve_102 ?_
          refine r_iinc (lv' := [(0, _), (1, _), (2, _), (3, _), (4, _), (5, _)]) C0 103 _ dX5_serve_103 rfl rfl rfl (by decide) rfl ?_
          refine r_goto C0 106 9 dX5_serve_106 (by decide) ?_
          have h9 := ih hlt
          have e9 : serN M z P (i + 1) = (up2 (selN (serN M z P i).1 ((serN M z P i).1 31 i) (nI i) ((serN M z P i).1 32 i) (serN M z P i).2 P).1 34 i 1, (selN (serN M z P i).1 ((serN M z P i).1 31 i) (nI i) ((serN M z P i).1 32 i) (serN M z P i).2 P).2.2) := by
            show (if bitN z i = 1 then _ else _ : (Nat → Nat → Int32) × Int32) = _
            rw [if_pos (show bitN z i = 1 from c_23)]
          rw [e9, ← nI_1] at h9
          refine r_drop C0 ?_ h9
          simp
        · refine r_aload_n C0 51 0 dX5_serve_51 rfl rfl ?_
          refine m_getA C0 52 22 (by decide) fl5_62 rfl dX5_serve_52 ?_
          refine r_iload C0 55 dX5_serve_55 rfl ?_
          refine m_ld C0 57 q rfl rfl (show q < 60 by omega) dX5_serve_57 ?_
          refine r_aload_n C0 58 0 dX5_serve_58 rfl rfl ?_
          refine m_getA C0 59 31 (by decide) fl5_86 rfl dX5_serve_59 ?_
          refine r_iload_n C0 62 3 dX5_serve_62 rfl rfl ?_
          refine m_ld C0 63 i rfl rfl (show i < 6 by omega) dX5_serve_63 ?_
          rw [show (selN (serN M z P i).1 ((serN M z P i).1 31 i) (nI i) ((serN M z P i).1 32 i) (serN M z P i).2 q).1 31 i = (serN M z P i).1 31 i by rw [selN_n (by decide)]]
          refine r_icmp_ne C0 64 90 dX5_serve_64 (by decide) (fun c_64 => ?_) (fun c_64 => ?_)
          · refine r_iinc (lv' := [(0, _), (1, _), (2, _), (3, _), (4, _), (5, _)]) C0 90 _ dX5_serve_90 rfl rfl rfl (by decide) rfl ?_
            refine r_goto C0 93 37 dX5_serve_93 (by decide) ?_
            have h9 := ihq hltq
            simp only [selN, seq1, eq_false c_43, eq_false c_48, eq_false c_64] at h9
            simpa [nI_1] using h9
          · refine r_aload_n C0 67 0 dX5_serve_67 rfl rfl ?_
            refine r_iload C0 68 dX5_serve_68 rfl ?_
            refine m_call (As := [.int _]) C0 70 1 (k5_isFree hX (by omega)) (rm5_isFree (by decide) (by decide) (Nat.le_refl _) (Nat.le_refl _)) ml5_169 im5_isFree se5_isFree rfl (Nat.le_of_ble_eq_true rfl) dX5_serve_70 ?_
            rintro _ _ ⟨rfl, rfl⟩
            refine r_if_eq C0 73 90 dX5_serve_73 (by decide) (fun c_73 => ?_) (fun c_73 => ?_)
            · refine r_iinc (lv' := [(0, _), (1, _), (2, _), (3, _), (4, _), (5, _)]) C0 90 _ dX5_serve_90 rfl rfl rfl (by decide) rfl ?_
              refine r_goto C0 93 37 dX5_serve_93 (by decide) ?_
              have h9 := ihq hltq
              simp only [selN, seq1, eq_false c_43, eq_false c_48, eq_true c_64, eq_true c_73] at h9
              simpa [nI_1] using h9
            · refine r_aload_n C0 76 0 dX5_serve_76 rfl rfl ?_
              refine m_getA C0 77 28 (by decide) fl5_80 rfl dX5_serve_77 ?_
              refine r_iload C0 80 dX5_serve_80 rfl ?_
              refine r_iload_n C0 82 3 dX5_serve_82 rfl rfl ?_
              refine m_st C0 83 q rfl rfl (show q < 60 by omega) dX5_serve_83 ?_
              refine r_iinc (lv' := [(0, _), (1, _), (2, _), (3, _), (4, _), (5, _)]) C0 84 _ dX5_serve_84 rfl rfl rfl (by decide) rfl ?_
              refine r_iinc (lv' := [(0, _), (1, _), (2, _), (3, _), (4, _), (5, _)]) C0 87 _ dX5_serve_87 rfl rfl rfl (by decide) rfl ?_
              refine r_iinc (lv' := [(0, _), (1, _), (2, _), (3, _), (4, _), (5, _)]) C0 90 _ dX5_serve_90 rfl rfl rfl (by decide) rfl ?_
              refine r_goto C0 93 37 dX5_serve_93 (by decide) ?_
              have h9 := ihq hltq
              simp only [selN, seq1, eq_false c_43, eq_false c_48, eq_true c_64, eq_false c_73] at h9
              simpa [nI_1] using h9
end M8
