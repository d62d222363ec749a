/-! the model: count, packer, at, barn, grade, on, egg -/
def allN (M : Nat → Nat → Int32) (f : Nat) : Int32 := M 15 f + M 15 (f + 1) + M 15 (f + 2) + M 15 (f + 3)
def linN (M : Nat → Nat → Int32) : Nat → Int32
  | 0 => 0
  | k + 1 => linN M k + (if M 10 k ≤ 0 then 0 else 1)
def cntA (M : Nat → Nat → Int32) (wh : Int32) : Int32 := if wh = 0 then M 0 0 else if wh = 1 then M 8 0 else if wh = 2 then linN M 16 else if wh = 3 then M 11 0 else if wh = 4 then allN M 0 else if wh = 5 then allN M 4 else if wh = 6 then allN M 8 else if wh = 7 then M 19 0 + M 19 1 + M 19 2 + M 19 3 else if wh = 8 then 6 * M 21 0 else if wh = 9 then M 14 0 else -1
def btsN (M : Nat → Nat → Int32) (x : Nat) : Nat → Int32
  | 0 => 0
  | k + 1 => btsN M x k ||| (1 <<< (M 1 (M 20 (6 * x + k)).toNatClampNeg &&& 31))
/-- the trays: at most 6 eggs each, each an egg below E -/
def TrOK (M : Nat → Nat → Int32) (E : Nat) : Prop := ∀ p, p < 4 → ∃ t : Nat, t ≤ 6 ∧ M 19 p = nI t ∧ ∀ k, k < t → ∃ e : Nat, e < E ∧ M 20 (6 * p + k) = nI e
def pkrA (M : Nat → Nat → Int32) (p wh : Int32) : Int32 := if inR p 0 3 = 0 then -1 else if wh = 0 then M 16 p.toNatClampNeg else if wh = 1 then if M 17 p.toNatClampNeg = 0 then 1 else 0 else if wh = 2 then M 19 p.toNatClampNeg else if wh = 3 then M 18 p.toNatClampNeg else if wh = 4 then btsN M p.toNatClampNeg (M 19 p.toNatClampNeg).toNatClampNeg else -1
def LiOK (M : Nat → Nat → Int32) (E : Nat) : Prop := ∀ k, k < 16 → ∃ v : Nat, v ≤ E ∧ M 10 k = nI v
def atA (M : Nat → Nat → Int32) (pl wh : Int32) : Int32 := if inR pl 0 15 = 0 then -1 else if inR wh 0 4 = 0 then -1 else
  if 0 ≤ M 10 pl.toNatClampNeg - 1 then if wh = 0 then M 10 pl.toNatClampNeg - 1 else if wh = 1 then M 1 (M 10 pl.toNatClampNeg - 1).toNatClampNeg else if wh = 2 then M 2 (M 10 pl.toNatClampNeg - 1).toNatClampNeg else if wh = 3 then if 2 ≤ pl then M 6 (M 10 pl.toNatClampNeg - 1).toNatClampNeg else 0 else if 2 ≤ pl then gradeN (M 6 (M 10 pl.toNatClampNeg - 1).toNatClampNeg) else -9 else -9
def brnA (M : Nat → Nat → Int32) (b wh : Int32) : Int32 := if inR b 0 3 = 0 then -1 else if inR wh 0 4 = 0 then -1 else if wh = 0 then M 15 (16 + b.toNatClampNeg) else M 15 (4 * (wh.toNatClampNeg - 1) + b.toNatClampNeg)
def grdA (M : Nat → Nat → Int32) (p v : Int32) : (Nat → Nat → Int32) × Int32 := if inR p 0 3 = 0 then (M, -1) else if inR v 0 5 = 0 then (M, -1) else if M 19 p.toNatClampNeg ≤ 0 then (up2 M 16 p.toNatClampNeg v, M 16 p.toNatClampNeg) else (M, -2)
def onA (M : Nat → Nat → Int32) (p z : Int32) : (Nat → Nat → Int32) × Int32 := if inR p 0 3 = 0 then (M, -1) else (up2 M 17 p.toNatClampNeg (if z = 0 then 1 else 0), if M 17 p.toNatClampNeg = 0 then 1 else 0)
def eggM (M : Nat → Nat → Int32) (E Q : Nat) (b w t r d : Int32) : Nat → Nat → Int32 :=
  up2 (up2 (up2 (up2 (up2 (up2 (up2 (up2 (up2 M 1 E b) 2 E w) 3 E t) 4 E r) 5 E d) 9 Q (M 0 0)) 8 0 (M 8 0 + 1)) 15 (16 + b.toNatClampNeg) (M 15 (16 + b.toNatClampNeg) + 1)) 0 0 (M 0 0 + 1)
def eggA (M : Nat → Nat → Int32) (E Q : Nat) (b w t r d : Int32) : (Nat → Nat → Int32) × Int32 := if inR b 0 3 = 0 then (M, -1) else if inR w 30 90 = 0 then (M, -1) else if inR t 0 15 = 0 then (M, -1) else if inR r 0 9 = 0 then (M, -1) else if inR d 0 3 = 0 then (M, -1) else if M 8 0 = 20 then (M, -3) else (eggM M E Q b w t r d, M 0 0 + 1 - 1)
theorem inR_3 {v : Int32} (h : ¬ inR v 0 3 = 0) : ∃ x : Nat, x < 4 ∧ v = nI x := by
  obtain ⟨x, hx, e⟩ := inR_x (n := 3) rfl h
  exact ⟨x, by omega, e⟩
theorem nI_add' {a b : Nat} {x y : Int32} (hx : x = nI a) (hy : y = nI b) : x + y = nI (a + b) := by
  rw [hx, hy, nI_add]
theorem nI_mul' {a b : Nat} {x y : Int32} (hx : x = nI a) (hy : y = nI b) : x * y = nI (a * b) := by
  rw [hx, hy, pk_mul]
theorem nI_pr {v : Nat} {x : Int32} (hx : x = nI v) (hv : 0 < v) : x - 1 = nI (v - 1) := by
  rw [hx]
  exact pk_sub (a := v) (b := 1) hv
theorem nI_prn {v : Nat} {x : Int32} (hx : x = nI v) (hv : v < 2 ^ 30) : 0 ≤ x - 1 ↔ 0 < v := by
  rw [Int32.le_iff_toInt_le, hx, nI_m1 hv]
  show (0 : Int) ≤ _ ↔ _
  omega

section M9
variable {D : va_G} {ar : Nat → ClassId} {X : XT} {h1 : Nat} {ad : Nat → Nat} {M : Nat → Nat → Int32} {T : Int64}
theorem k5_allBarns (hX : Xok X) {x : Nat} (hx : x ≤ 8)  : Cn D ar X yX5_allBarns cX5_allBarns 2 (some .int) 0 0 0 0 [.ref h1, .int (nI x)] (mW ar h1 ad M T) (fun r w => r = some (.int (allN M x)) ∧ w = mW ar h1 ad M T) := by
  refine Cn.of (own := RX5) hX (by decide) rfl (Nat.le_of_ble_eq_true rfl) (fun j C => ?_)
  have C0 := C.to
  show j _ 0 0 0 [(0, _), (1, _)] []
  refine r_aload_n C0 0 0 dX5_allBarns_0 rfl rfl ?_
  refine m_getA C0 1 15 (by decide) fl5_43 rfl dX5_allBarns_1 ?_
  refine r_iload_n C0 4 1 dX5_allBarns_4 rfl rfl ?_
  refine m_ld C0 5 x rfl rfl (show x < 20 by omega) dX5_allBarns_5 ?_
  refine r_aload_n C0 6 0 dX5_allBarns_6 rfl rfl ?_
  refine m_getA C0 7 15 (by decide) fl5_43 rfl dX5_allBarns_7 ?_
  refine r_iload_n C0 10 1 dX5_allBarns_10 rfl rfl ?_
  refine r_iconst C0 11 1 dX5_allBarns_11 (by decide) ?_
  refine r_iadd C0 12 dX5_allBarns_12 ?_
  refine m_ld C0 13 (x + 1) rfl (nI_add x 1) (show _ < 20 by omega) dX5_allBarns_13 ?_
  refine r_iadd C0 14 dX5_allBarns_14 ?_
  refine r_aload_n C0 15 0 dX5_allBarns_15 rfl rfl ?_
  refine m_getA C0 16 15 (by decide) fl5_43 rfl dX5_allBarns_16 ?_
  refine r_iload_n C0 19 1 dX5_allBarns_19 rfl rfl ?_
  refine r_iconst C0 20 2 dX5_allBarns_20 (by decide) ?_
  refine r_iadd C0 21 dX5_allBarns_21 ?_
  refine m_ld C0 22 (x + 2) rfl (nI_add x 2) (show _ < 20 by omega) dX5_allBarns_22 ?_
  refine r_iadd C0 23 dX5_allBarns_23 ?_
  refine r_aload_n C0 24 0 dX5_allBarns_24 rfl rfl ?_
  refine m_getA C0 25 15 (by decide) fl5_43 rfl dX5_allBarns_25 ?_
  refine r_iload_n C0 28 1 dX5_allBarns_28 rfl rfl ?_
  refine r_iconst C0 29 3 dX5_allBarns_29 (by decide) ?_
  refine r_iadd C0 30 dX5_allBarns_30 ?_
  refine m_ld C0 31 (x + 3) rfl (nI_add x 3) (show _ < 20 by omega) dX5_allBarns_31 ?_
  refine r_iadd C0 32 dX5_allBarns_32 ?_
  refine r_iret C 33 dX5_allBarns_33 (Nat.le_refl _) (Nat.le_refl _) ?_
  exact ⟨rfl, rfl⟩
theorem k5_count (hX : Xok X) (wh : Int32)  : Cn D ar X yX5_count cX5_count 4 (some .int) 1 21 0 0 [.ref h1, .int wh] (mW ar h1 ad M T) (fun r w => r = some (.int (cntA M wh)) ∧ w = mW ar h1 ad M T) := by
  refine Cn.of (own := RX5) hX (by decide) rfl (Nat.le_of_ble_eq_true rfl) (fun j C => ?_)
  have C0 := C.to
  show j _ 0 0 0 [(0, _), (1, _)] []
  refine r_iconst C0 0 0 dX5_count_0 (by decide) ?_
  refine r_istore_n (lv' := [(0, _), (1, _), (2, _)]) C0 1 2 dX5_count_1 rfl rfl (by decide) rfl ?_
  refine r_iload_n C0 2 1 dX5_count_2 rfl rfl ?_
  rcases swc 10 (by decide) wh with ⟨i, hi, rfl⟩ | ho
  · rcases (show i = 0 ∨ i = 1 ∨ i = 2 ∨ i = 3 ∨ i = 4 ∨ i = 5 ∨ i = 6 ∨ i = 7 ∨ i = 8 ∨ i = 9 by omega) with rfl | rfl | rfl | rfl | rfl | rfl | rfl | rfl | rfl | rfl
    · refine r_tableIn C0 3 56 dX5_count_3 (by decide) (by decide) rfl (by decide) ?_
      refine r_aload_n C0 56 0 dX5_count_56 rfl rfl ?_
      refine m_getI C0 57 0 rfl fl5_109 rfl dX5_count_57 ?_
      refine r_iret C 60 dX5_count_60 (Nat.le_refl _) (Nat.le_refl _) ?_
      exact ⟨rfl, rfl⟩
    · refine r_tableIn C0 3 61 dX5_count_3 (by decide) (by decide) rfl (by decide) ?_
      refine r_aload_n C0 61 0 dX5_count_61 rfl rfl ?_
      refine m_getI C0 62 8 rfl fl5_106 rfl dX5_count_62 ?_
      refine r_iret C 65 dX5_count_65 (Nat.le_refl _) (Nat.le_refl _) ?_
      exact ⟨rfl, rfl⟩
    · refine r_tableIn C0 3 66 dX5_count_3 (by decide) (by decide) rfl (by decide) ?_
      refine r_iconst C0 66 0 dX5_count_66 (by decide) ?_
      refine r_istore_n (lv' := [(0, _), (1, _), (2, _), (3, _)]) C0 67 3 dX5_count_67 rfl rfl (by decide) rfl ?_
      refine loopUp (P := 16) (f := fun i => j (mW ar h1 ad M T) 0 0 68 [(0, .ref h1), (1, .int (nI 2)), (2, .int (linN M i)), (3, .int (nI i))] []) (fun i hi ih => ?_) 0 (Nat.zero_le _)
      refine r_iload_n C0 68 3 dX5_count_68 rfl rfl ?_
      refine r_bipush C0 69 16 dX5_count_69 (by decide) ?_
      refine r_icmp_ge C0 71 97 dX5_count_71 (by decide) (fun c_71 => ?_) (fun c_71 => ?_)
      · have hge : 16 ≤ i := (nI_leI (a := 16) (by omega) (by omega)).mp c_71
        refine r_iload_n C0 97 2 dX5_count_97 rfl rfl ?_
        refine r_iret C 98 dX5_count_98 (Nat.le_refl _) (Nat.le_refl _) ?_
        have e : i = 16 := by omega
        subst e
        exact ⟨rfl, rfl⟩
      · have hlt : i < 16 := Nat.lt_of_not_le (fun q => c_71 (nI_le (a := 16) q (by omega)))
        refine r_iload_n C0 74 2 dX5_count_74 rfl rfl ?_
        refine r_aload_n C0 75 0 dX5_count_75 rfl rfl ?_
        refine m_getA C0 76 10 (by decide) fl5_34 rfl dX5_count_76 ?_
        refine r_iload_n C0 79 3 dX5_count_79 rfl rfl ?_
        refine m_ld C0 80 i rfl rfl hlt dX5_count_80 ?_
        refine r_if_le C0 81 88 dX5_count_81 (by decide) (fun c_81 => ?_) (fun c_81 => ?_)
        · refine r_iconst C0 88 0 dX5_count_88 (by decide) ?_
          refine r_iadd C0 89 dX5_count_89 ?_
          refine r_istore_n (lv' := [(0, _), (1, _), (2, _), (3, _)]) C0 90 2 dX5_count_90 rfl rfl (by decide) rfl ?_
          refine r_iinc (lv' := [(0, _), (1, _), (2, _), (3, _)]) C0 91 _ dX5_count_91 rfl rfl rfl (by decide) rfl ?_
          refine r_goto C0 94 68 dX5_count_94 (by decide) ?_
          have h9 := ih hlt
          simp only [linN, eq_false c_71, eq_true c_81] at h9
          simpa [nI_1] using h9
        · refine r_iconst C0 84 1 dX5_count_84 (by decide) ?_
          refine r_goto C0 85 89 dX5_count_85 (by decide) ?_
          refine r_iadd C0 89 dX5_count_89 ?_
          refine r_istore_n (lv' := [(0, _), (1, _), (2, _), (3, _)]) C0 90 2 dX5_count_90 rfl rfl (by decide) rfl ?_
          refine r_iinc (lv' := [(0, _), (1, _), (2, _), (3, _)]) C0 91 _ dX5_count_91 rfl rfl rfl (by decide) rfl ?_
          refine r_goto C0 94 68 dX5_count_94 (by decide) ?_
          have h9 := ih hlt
          simp only [linN, eq_false c_71, eq_false c_81] at h9
          simpa [nI_1] using h9
    · refine r_tableIn C0 3 99 dX5_count_3 (by decide) (by decide) rfl (by decide) ?_
      refine r_aload_n C0 99 0 dX5_count_99 rfl rfl ?_
      refine m_getI C0 100 11 rfl fl5_129 rfl dX5_count_100 ?_
      refine r_iret C 103 dX5_count_103 (Nat.le_refl _) (Nat.le_refl _) ?_
      exact ⟨rfl, rfl⟩
    · refine r_tableIn C0 3 104 dX5_count_3 (by decide) (by decide) rfl (by decide) ?_
      refine r_aload_n C0 104 0 dX5_count_104 rfl rfl ?_
      refine r_iconst C0 105 0 dX5_count_105 (by decide) ?_
      refine m_call (As := [.int _]) C0 106 1 (k5_allBarns (x := 0) hX (by decide)) (rm5_allBarns (by decide) (by decide) (Nat.le_refl _) (Nat.le_refl _)) ml5_163 im5_allBarns se5_allBarns rfl (Nat.le_of_ble_eq_true rfl) dX5_count_106 ?_
      rintro _ _ ⟨rfl, rfl⟩
      refine r_iret C 109 dX5_count_109 (Nat.le_refl _) (Nat.le_refl _) ?_
      exact ⟨rfl, rfl⟩
    · refine r_tableIn C0 3 110 dX5_count_3 (by decide) (by decide) rfl (by decide) ?_
      refine r_aload_n C0 110 0 dX5_count_110 rfl rfl ?_
      refine r_iconst C0 111 4 dX5_count_111 (by decide) ?_
      refine m_call (As := [.int _]) C0 112 1 (k5_allBarns (x := 4) hX (by decide)) (rm5_allBarns (by decide) (by decide) (Nat.le_refl _) (Nat.le_refl _)) ml5_163 im5_allBarns se5_allBarns rfl (Nat.le_of_ble_eq_true rfl) dX5_count_112 ?_
      rintro _ _ ⟨rfl, rfl⟩
      refine r_iret C 115 dX5_count_115 (Nat.le_refl _) (Nat.le_refl _) ?_
      exact ⟨rfl, rfl⟩
    · refine r_tableIn C0 3 116 dX5_count_3 (by decide) (by decide) rfl (by decide) ?_
      refine r_aload_n C0 116 0 dX5_count_116 rfl rfl ?_
      refine r_bipush C0 117 8 dX5_count_117 (by decide) ?_
      refine m_call (As := [.int _]) C0 119 1 (k5_allBarns (x := 8) hX (by decide)) (rm5_allBarns (by decide) (by decide) (Nat.le_refl _) (Nat.le_refl _)) ml5_163 im5_allBarns se5_allBarns rfl (Nat.le_of_ble_eq_true rfl) dX5_count_119 ?_
      rintro _ _ ⟨rfl, rfl⟩
      refine r_iret C 122 dX5_count_122 (Nat.le_refl _) (Nat.le_refl _) ?_
      exact ⟨rfl, rfl⟩
    · refine r_tableIn C0 3 123 dX5_count_3 (by decide) (by decide) rfl (by decide) ?_
      refine r_aload_n C0 123 0 dX5_count_123 rfl rfl ?_
      refine m_getA C0 124 19 (by decide) fl5_56 rfl dX5_count_124 ?_
      refine r_iconst C0 127 0 dX5_count_127 (by decide) ?_
      refine m_ld C0 128 0 rfl rfl (by decide) dX5_count_128 ?_
      refine r_aload_n C0 129 0 dX5_count_129 rfl rfl ?_
      refine m_getA C0 130 19 (by decide) fl5_56 rfl dX5_count_130 ?_
      refine r_iconst C0 133 1 dX5_count_133 (by decide) ?_
      refine m_ld C0 134 1 rfl rfl (by decide) dX5_count_134 ?_
      refine r_iadd C0 135 dX5_count_135 ?_
      refine r_aload_n C0 136 0 dX5_count_136 rfl rfl ?_
      refine m_getA C0 137 19 (by decide) fl5_56 rfl dX5_count_137 ?_
      refine r_iconst C0 140 2 dX5_count_140 (by decide) ?_
      refine m_ld C0 141 2 rfl rfl (by decide) dX5_count_141 ?_
      refine r_iadd C0 142 dX5_count_142 ?_
      refine r_aload_n C0 143 0 dX5_count_143 rfl rfl ?_
      refine m_getA C0 144 19 (by decide) fl5_56 rfl dX5_count_144 ?_
      refine r_iconst C0 147 3 dX5_count_147 (by decide) ?_
      refine m_ld C0 148 3 rfl rfl (by decide) dX5_count_148 ?_
      refine r_iadd C0 149 dX5_count_149 ?_
      refine r_iret C 150 dX5_count_150 (Nat.le_refl _) (Nat.le_refl _) ?_
      exact ⟨rfl, rfl⟩
    · refine r_tableIn C0 3 151 dX5_count_3 (by decide) (by decide) rfl (by decide) ?_
      refine r_bipush C0 151 6 dX5_count_151 (by decide) ?_
      refine r_aload_n C0 153 0 dX5_count_153 rfl rfl ?_
      refine m_getI C0 154 21 rfl fl5_135 rfl dX5_count_154 ?_
      refine r_imul C0 157 dX5_count_157 ?_
      refine r_iret C 158 dX5_count_158 (Nat.le_refl _) (Nat.le_refl _) ?_
      exact ⟨rfl, rfl⟩
    · refine r_tableIn C0 3 159 dX5_count_3 (by decide) (by decide) rfl (by decide) ?_
      refine r_aload_n C0 159 0 dX5_count_159 rfl rfl ?_
      refine m_getI C0 160 14 rfl fl5_132 rfl dX5_count_160 ?_
      refine r_iret C 163 dX5_count_163 (Nat.le_refl _) (Nat.le_refl _) ?_
      exact ⟨rfl, rfl⟩
  · refine r_tableOut C0 3 164 dX5_count_3 ho (by decide) ?_
    refine r_iconst C0 164 (-1) dX5_count_164 (by decide) ?_
    refine r_iret C 165 dX5_count_165 (Nat.le_refl _) (Nat.le_refl _) ?_
    exact ⟨by simp [cntA, swn ho (c := 0) (by decide), swn ho (c := 1) (by decide), swn ho (c := 2) (by decide), swn ho (c := 3) (by decide), swn ho (c := 4) (by decide), swn ho (c := 5) (by decide), swn ho (c := 6) (by decide), swn ho (c := 7) (by decide), swn ho (c := 8) (by decide), swn ho (c := 9) (by decide)], rfl⟩
theorem k5_packer (hX : Xok X) {E : Nat} (hE : E ≤ 600) (hT : TrOK M E) (p wh : Int32)  : Cn D ar X yX5_packer cX5_packer 5 (some .int) 2 42 0 0 [.ref h1, .int p, .int wh] (mW ar h1 ad M T) (fun r w => r = some (.int (pkrA M p wh)) ∧ w = mW ar h1 ad M T) := by
  refine Cn.of (own := RX5) hX (by decide) rfl (Nat.le_of_ble_eq_true rfl) (fun j C => ?_)
  have C0 := C.to
  show j _ 0 0 0 [(0, _), (1, _), (2, _)] []
  refine r_iload_n C0 0 1 dX5_packer_0 rfl rfl ?_
  refine s_call (As := [.int _]) C0 1 1 (k5_isPacker hX _ _) (rm5_isPacker (by decide) (by decide) (Nat.le_refl _) (Nat.le_refl _)) ml5_159 st5_isPacker rfl (Nat.le_of_ble_eq_true rfl) dX5_packer_1 ?_
  rintro _ _ ⟨rfl, rfl⟩
  refine r_if_ne C0 4 9 dX5_packer_4 (by decide) (fun c_4 => ?_) (fun c_4 => ?_)
  · obtain ⟨x, hx, rfl⟩ := inR_3 c_4
    have hcl : (nI x).toNatClampNeg = x := nI_clamp (by omega)
    refine r_iconst C0 9 0 dX5_packer_9 (by decide) ?_
    refine r_istore_n (lv' := [(0, _), (1, _), (2, _), (3, _)]) C0 10 3 dX5_packer_10 rfl rfl (by decide) rfl ?_
    refine r_iload_n C0 11 2 dX5_packer_11 rfl rfl ?_
    rcases swc 5 (by decide) wh with ⟨i, hi, rfl⟩ | ho
    · rcases (show i = 0 ∨ i = 1 ∨ i = 2 ∨ i = 3 ∨ i = 4 by omega) with rfl | rfl | rfl | rfl | rfl
      · refine r_tableIn C0 12 48 dX5_packer_12 (by decide) (by decide) rfl (by decide) ?_
        refine r_aload_n C0 48 0 dX5_packer_48 rfl rfl ?_
        refine m_getA C0 49 16 (by decide) fl5_46 rfl dX5_packer_49 ?_
        refine r_iload_n C0 52 1 dX5_packer_52 rfl rfl ?_
        refine m_ld C0 53 x rfl rfl hx dX5_packer_53 ?_
        refine r_iret C 54 dX5_packer_54 (Nat.le_refl _) (Nat.le_refl _) ?_
        exact ⟨by simp only [pkrA, hcl, eq_false c_4]; rfl, rfl⟩
      · refine r_tableIn C0 12 55 dX5_packer_12 (by decide) (by decide) rfl (by decide) ?_
        refine r_aload_n C0 55 0 dX5_packer_55 rfl rfl ?_
        refine m_getA C0 56 17 (by decide) fl5_49 rfl dX5_packer_56 ?_
        refine r_iload_n C0 59 1 dX5_packer_59 rfl rfl ?_
        refine m_ldz C0 60 x rfl rfl hx dX5_packer_60 ?_
        refine r_if_eq C0 61 68 dX5_packer_61 (by decide) (fun c_61 => ?_) (fun c_61 => ?_)
        · refine r_iconst C0 68 1 dX5_packer_68 (by decide) ?_
          refine r_iret C 69 dX5_packer_69 (Nat.le_refl _) (Nat.le_refl _) ?_
          exact ⟨by simp only [pkrA, hcl, eq_false c_4, eq_true c_61]; rfl, rfl⟩
        · refine r_iconst C0 64 0 dX5_packer_64 (by decide) ?_
          refine r_goto C0 65 69 dX5_packer_65 (by decide) ?_
          refine r_iret C 69 dX5_packer_69 (Nat.le_refl _) (Nat.le_refl _) ?_
          exact ⟨by simp only [pkrA, hcl, eq_false c_4, eq_false c_61]; rfl, rfl⟩
      · refine r_tableIn C0 12 70 dX5_packer_12 (by decide) (by decide) rfl (by decide) ?_
        refine r_aload_n C0 70 0 dX5_packer_70 rfl rfl ?_
        refine m_getA C0 71 19 (by decide) fl5_56 rfl dX5_packer_71 ?_
        refine r_iload_n C0 74 1 dX5_packer_74 rfl rfl ?_
        refine m_ld C0 75 x rfl rfl hx dX5_packer_75 ?_
        refine r_iret C 76 dX5_packer_76 (Nat.le_refl _) (Nat.le_refl _) ?_
        exact ⟨by simp only [pkrA, hcl, eq_false c_4]; rfl, rfl⟩
      · refine r_tableIn C0 12 77 dX5_packer_12 (by decide) (by decide) rfl (by decide) ?_
        refine r_aload_n C0 77 0 dX5_packer_77 rfl rfl ?_
        refine m_getA C0 78 18 (by decide) fl5_53 rfl dX5_packer_78 ?_
        refine r_iload_n C0 81 1 dX5_packer_81 rfl rfl ?_
        refine m_ld C0 82 x rfl rfl hx dX5_packer_82 ?_
        refine r_iret C 83 dX5_packer_83 (Nat.le_refl _) (Nat.le_refl _) ?_
        exact ⟨by simp only [pkrA, hcl, eq_false c_4]; rfl, rfl⟩
      · refine r_tableIn C0 12 84 dX5_packer_12 (by decide) (by decide) rfl (by decide) ?_
        refine r_iconst C0 84 0 dX5_packer_84 (by decide) ?_
        refine r_istore (lv' := [(0, _), (1, _), (2, _), (3, _), (4, _)]) C0 85 dX5_packer_85 rfl (by decide) rfl ?_
        obtain ⟨t, ht6, htt, htk⟩ := hT x hx
        have hct : (M 19 x).toNatClampNeg = t := by rw [htt]; exact nI_clamp (by omega)
        refine loopUp (P := t) (f := fun i => j (mW ar h1 ad M T) 0 0 87 [(0, .ref h1), (1, .int (nI x)), (2, .int (nI 4)), (3, .int (btsN M x i)), (4, .int (nI i))] []) (fun i hi ih => ?_) 0 (Nat.zero_le _)
        refine r_iload C0 87 dX5_packer_87 rfl ?_
        refine r_aload_n C0 89 0 dX5_packer_89 rfl rfl ?_
        refine m_getA C0 90 19 (by decide) fl5_56 rfl dX5_packer_90 ?_
        refine r_iload_n C0 93 1 dX5_packer_93 rfl rfl ?_
        refine m_ld C0 94 x rfl rfl hx dX5_packer_94 ?_
        refine r_icmp_ge C0 95 126 dX5_packer_95 (by decide) (fun c_95 => ?_) (fun c_95 => ?_)
        · have hge : t ≤ i := (nI_leI (by omega) (by omega)).mp (by rw [← htt]; exact c_95)
          refine r_iload_n C0 126 3 dX5_packer_126 rfl rfl ?_
          refine r_iret C 127 dX5_packer_127 (Nat.le_refl _) (Nat.le_refl _) ?_
          have e : i = t := by omega
          subst e
          exact ⟨by simp only [pkrA, hcl, hct, eq_false c_4]; rfl, rfl⟩
        · have hlt : i < t := Nat.lt_of_not_le (fun q => c_95 (by rw [htt]; exact nI_le q (by omega)))
          obtain ⟨e, he6, he⟩ := htk i hlt
          refine r_iload_n C0 98 3 dX5_packer_98 rfl rfl ?_
          refine r_iconst C0 99 1 dX5_packer_99 (by decide) ?_
          refine r_aload_n C0 100 0 dX5_packer_100 rfl rfl ?_
          refine m_getA C0 101 1 (by decide) fl5_7 rfl dX5_packer_101 ?_
          refine r_aload_n C0 104 0 dX5_packer_104 rfl rfl ?_
          refine m_getA C0 105 20 (by decide) fl5_59 rfl dX5_packer_105 ?_
          refine r_bipush C0 108 6 dX5_packer_108 (by decide) ?_
          refine r_iload_n C0 110 1 dX5_packer_110 rfl rfl ?_
          refine r_imul C0 111 dX5_packer_111 ?_
          refine r_iload C0 112 dX5_packer_112 rfl ?_
          refine r_iadd C0 114 dX5_packer_114 ?_
          refine m_ld C0 115 (6 * x + i) rfl (nI_add' (nI_mul' (a := 6) rfl rfl) rfl) (show _ < 24 by omega) dX5_packer_115 ?_
          refine m_ld C0 116 e rfl he (show e < 600 by omega) dX5_packer_116 ?_
          refine r_ishl C0 117 dX5_packer_117 ?_
          refine r_ior C0 118 dX5_packer_118 ?_
          refine r_istore_n (lv' := [(0, _), (1, _), (2, _), (3, _), (4, _)]) C0 119 3 dX5_packer_119 rfl rfl (by decide) rfl ?_
          refine r_iinc (lv' := [(0, _), (1, _), (2, _), (3, _), (4, _)]) C0 120 _ dX5_packer_120 rfl rfl rfl (by decide) rfl ?_
          refine r_goto C0 123 87 dX5_packer_123 (by decide) ?_
          have h9 := ih hlt
          have e9 : btsN M x (i + 1) = btsN M x i ||| (1 <<< (M 1 e &&& 31)) := by
            show btsN M x i ||| _ = _
            rw [he, nI_clamp (by omega)]
          rw [e9, ← nI_1 i] at h9
          exact h9
    · refine r_tableOut C0 12 128 dX5_packer_12 ho (by decide) ?_
      refine r_iconst C0 128 (-1) dX5_packer_128 (by decide) ?_
      refine r_iret C 129 dX5_packer_129 (Nat.le_refl _) (Nat.le_refl _) ?_
      exact ⟨by simp [pkrA, swn ho (c := 0) (by decide), swn ho (c := 1) (by decide), swn ho (c := 2) (by decide), swn ho (c := 3) (by decide), swn ho (c := 4) (by decide), eq_false c_4], rfl⟩
  · refine r_iconst C0 7 (-1) dX5_packer_7 (by decide) ?_
    refine r_iret C 8 dX5_packer_8 (Nat.le_refl _) (Nat.le_refl _) ?_
    exact ⟨by simp [pkrA, eq_true c_4], rfl⟩
theorem k5_at (hX : Xok X) {E : Nat} (hE : E ≤ 600) (hL : LiOK M E) (pl wh : Int32)  : Cn D ar X yX5_at cX5_at 4 (some .int) 1 22 0 0 [.ref h1, .int pl, .int wh] (mW ar h1 ad M T) (fun r w => r = some (.int (atA M pl wh)) ∧ w = mW ar h1 ad M T) := by
  refine Cn.of (own := RX5) hX (by decide) rfl (Nat.le_of_ble_eq_true rfl) (fun j C => ?_)
  have C0 := C.to
  show j _ 0 0 0 [(0, _), (1, _), (2, _)] []
  refine r_iload_n C0 0 1 dX5_at_0 rfl rfl ?_
  refine r_iconst C0 1 0 dX5_at_1 (by decide) ?_
  refine r_bipush C0 2 15 dX5_at_2 (by decide) ?_
  refine s_call (As := [.int _, .int _, .int _]) C0 4 3 (k5_in hX _ _ _ _) (rm5_in (by decide) (by decide) (Nat.le_refl _) (Nat.le_refl _)) ml5_102 st5_in rfl (Nat.le_of_ble_eq_true rfl) dX5_at_4 ?_
  rintro _ _ ⟨rfl, rfl⟩
  refine r_if_eq C0 7 19 dX5_at_7 (by decide) (fun c_7 => ?_) (fun c_7 => ?_)
  · refine r_iconst C0 19 (-1) dX5_at_19 (by decide) ?_
    refine r_iret C 20 dX5_at_20 (Nat.le_refl _) (Nat.le_refl _) ?_
    exact ⟨by simp [atA, eq_true c_7], rfl⟩
  · refine r_iload_n C0 10 2 dX5_at_10 rfl rfl ?_
    refine r_iconst C0 11 0 dX5_at_11 (by decide) ?_
    refine r_iconst C0 12 4 dX5_at_12 (by decide) ?_
    refine s_call (As := [.int _, .int _, .int _]) C0 13 3 (k5_in hX _ _ _ _) (rm5_in (by decide) (by decide) (Nat.le_refl _) (Nat.le_refl _)) ml5_102 st5_in rfl (Nat.le_of_ble_eq_true rfl) dX5_at_13 ?_
    rintro _ _ ⟨rfl, rfl⟩
    refine r_if_ne C0 16 21 dX5_at_16 (by decide) (fun c_16 => ?_) (fun c_16 => ?_)
    · obtain ⟨x, hx, rfl⟩ := inR_x (n := 15) rfl c_7
      have hcl : (nI x).toNatClampNeg = x := nI_clamp (by omega)
      obtain ⟨v, hvE, hv⟩ := hL x (by omega)
      refine r_aload_n C0 21 0 dX5_at_21 rfl rfl ?_
      refine m_getA C0 22 10 (by decide) fl5_34 rfl dX5_at_22 ?_
      refine r_iload_n C0 25 1 dX5_at_25 rfl rfl ?_
      refine m_ld C0 26 x rfl rfl (show x < 16 by omega) dX5_at_26 ?_
      refine r_iconst C0 27 1 dX5_at_27 (by decide) ?_
      refine r_isub C0 28 dX5_at_28 ?_
      refine r_istore_n (lv' := [(0, _), (1, _), (2, _), (3, _)]) C0 29 3 dX5_at_29 rfl rfl (by decide) rfl ?_
      refine r_iload_n C0 30 3 dX5_at_30 rfl rfl ?_
      refine r_if_ge C0 31 37 dX5_at_31 (by decide) (fun c_31 => ?_) (fun c_31 => ?_)
      · have hv0 : 0 < v := (nI_prn hv (by omega)).mp c_31
        have hce : (M 10 x - 1).toNatClampNeg = v - 1 := by rw [nI_pr hv hv0]; exact nI_clamp (by omega)
        refine r_iload_n C0 37 2 dX5_at_37 rfl rfl ?_
        rcases swc 4 (by decide) wh with ⟨i, hi, rfl⟩ | ho
        · rcases (show i = 0 ∨ i = 1 ∨ i = 2 ∨ i = 3 by omega) with rfl | rfl | rfl | rfl
          · refine r_tableIn C0 38 68 dX5_at_38 (by decide) (by decide) rfl (by decide) ?_
            refine r_iload_n C0 68 3 dX5_at_68 rfl rfl ?_
            refine r_iret C 69 dX5_at_69 (Nat.le_refl _) (Nat.le_refl _) ?_
            exact ⟨by simp only [atA, hcl, hce, eq_false c_7, eq_false c_16, eq_true c_31]; rfl, rfl⟩
          · refine r_tableIn C0 38 70 dX5_at_38 (by decide) (by decide) rfl (by decide) ?_
            refine r_aload_n C0 70 0 dX5_at_70 rfl rfl ?_
            refine m_getA C0 71 1 (by decide) fl5_7 rfl dX5_at_71 ?_
            refine r_iload_n C0 74 3 dX5_at_74 rfl rfl ?_
            refine m_ld C0 75 (v - 1) rfl (nI_pr hv hv0) (show v - 1 < 600 by omega) dX5_at_75 ?_
            refine r_iret C 76 dX5_at_76 (Nat.le_refl _) (Nat.le_refl _) ?_
            exact ⟨by simp only [atA, hcl, hce, eq_false c_7, eq_false c_16, eq_true c_31]; rfl, rfl⟩
          · refine r_tableIn C0 38 77 dX5_at_38 (by decide) (by decide) rfl (by decide) ?_
            refine r_aload_n C0 77 0 dX5_at_77 rfl rfl ?_
            refine m_getA C0 78 2 (by decide) fl5_13 rfl dX5_at_78 ?_
            refine r_iload_n C0 81 3 dX5_at_81 rfl rfl ?_
            refine m_ld C0 82 (v - 1) rfl (nI_pr hv hv0) (show v - 1 < 600 by omega) dX5_at_82 ?_
            refine r_iret C 83 dX5_at_83 (Nat.le_refl _) (Nat.le_refl _) ?_
            exact ⟨by simp only [atA, hcl, hce, eq_false c_7, eq_false c_16, eq_true c_31]; rfl, rfl⟩
          · refine r_tableIn C0 38 84 dX5_at_38 (by decide) (by decide) rfl (by decide) ?_
            refine r_iload_n C0 84 1 dX5_at_84 rfl rfl ?_
            refine r_iconst C0 85 2 dX5_at_85 (by decide) ?_
            refine r_icmp_ge C0 86 93 dX5_at_86 (by decide) (fun c_86 => ?_) (fun c_86 => ?_)
            · refine r_aload_n C0 93 0 dX5_at_93 rfl rfl ?_
              refine m_getA C0 94 6 (by decide) fl5_25 rfl dX5_at_94 ?_
              refine r_iload_n C0 97 3 dX5_at_97 rfl rfl ?_
              refine m_ld C0 98 (v - 1) rfl (nI_pr hv hv0) (show v - 1 < 600 by omega) dX5_at_98 ?_
              refine r_iret C 99 dX5_at_99 (Nat.le_refl _) (Nat.le_refl _) ?_
              exact ⟨by simp only [atA, hcl, hce, eq_false c_7, eq_false c_16, eq_true c_31, eq_true c_86]; rfl, rfl⟩
            · refine r_iconst C0 89 0 dX5_at_89 (by decide) ?_
              refine r_goto C0 90 99 dX5_at_90 (by decide) ?_
              refine r_iret C 99 dX5_at_99 (Nat.le_refl _) (Nat.le_refl _) ?_
              exact ⟨by simp only [atA, hcl, hce, eq_false c_7, eq_false c_16, eq_true c_31, eq_false c_86]; rfl, rfl⟩
        · refine r_tableOut C0 38 100 dX5_at_38 ho (by decide) ?_
          refine r_iload_n C0 100 1 dX5_at_100 rfl rfl ?_
          refine r_iconst C0 101 2 dX5_at_101 (by decide) ?_
          refine r_icmp_ge C0 102 110 dX5_at_102 (by decide) (fun c_102 => ?_) (fun c_102 => ?_)
          · refine r_aload_n C0 110 0 dX5_at_110 rfl rfl ?_
            refine m_getA C0 111 6 (by decide) fl5_25 rfl dX5_at_111 ?_
            refine r_iload_n C0 114 3 dX5_at_114 rfl rfl ?_
            refine m_ld C0 115 (v - 1) rfl (nI_pr hv hv0) (show v - 1 < 600 by omega) dX5_at_115 ?_
            refine s_call (As := [.int _]) C0 116 1 (k5_gradeBy hX _ _) (rm5_gradeBy (by decide) (by decide) (Nat.le_refl _) (Nat.le_refl _)) ml5_138 st5_gradeBy rfl (Nat.le_of_ble_eq_true rfl) dX5_at_116 ?_
            rintro _ _ ⟨rfl, rfl⟩
            refine r_iret C 119 dX5_at_119 (Nat.le_refl _) (Nat.le_refl _) ?_
            exact ⟨by simp [atA, hcl, hce, swn ho (c := 0) (by decide), swn ho (c := 1) (by decide), swn ho (c := 2) (by decide), swn ho (c := 3) (by decide), eq_false c_7, eq_false c_16, eq_true c_31, eq_true c_102], rfl⟩
          · refine r_bipush C0 105 (-9) dX5_at_105 (by decide) ?_
            refine r_goto C0 107 119 dX5_at_107 (by decide) ?_
            refine r_iret C 119 dX5_at_119 (Nat.le_refl _) (Nat.le_refl _) ?_
            exact ⟨by simp [atA, hcl, hce, swn ho (c := 0) (by decide), swn ho (c := 1) (by decide), swn ho (c := 2) (by decide), swn ho (c := 3) (by decide), eq_false c_7, eq_false c_16, eq_true c_31, eq_false c_102], rfl⟩
      · refine r_bipush C0 34 (-9) dX5_at_34 (by decide) ?_
        refine r_iret C 36 dX5_at_36 (Nat.le_refl _) (Nat.le_refl _) ?_
        exact ⟨by simp only [atA, hcl, eq_false c_7, eq_false c_16, eq_false c_31]; rfl, rfl⟩
    · refine r_iconst C0 19 (-1) dX5_at_19 (by decide) ?_
      refine r_iret C 20 dX5_at_20 (Nat.le_refl _) (Nat.le_refl _) ?_
      exact ⟨by simp [atA, eq_false c_7, eq_true c_16], rfl⟩
theorem k5_barn (hX : Xok X) (b wh : Int32)  : Cn D ar X yX5_barn cX5_barn 3 (some .int) 1 22 0 0 [.ref h1, .int b, .int wh] (mW ar h1 ad M T) (fun r w => r = some (.int (brnA M b wh)) ∧ w = mW ar h1 ad M T) := by
  refine Cn.of (own := RX5) hX (by decide) rfl (Nat.le_of_ble_eq_true rfl) (fun j C => ?_)
  have C0 := C.to
  show j _ 0 0 0 [(0, _), (1, _), (2, _)] []
  refine r_iload_n C0 0 1 dX5_barn_0 rfl rfl ?_
  refine r_iconst C0 1 0 dX5_barn_1 (by decide) ?_
  refine r_iconst C0 2 3 dX5_barn_2 (by decide) ?_
  refine s_call (As := [.int _, .int _, .int _]) C0 3 3 (k5_in hX _ _ _ _) (rm5_in (by decide) (by decide) (Nat.le_refl _) (Nat.le_refl _)) ml5_102 st5_in rfl (Nat.le_of_ble_eq_true rfl) dX5_barn_3 ?_
  rintro _ _ ⟨rfl, rfl⟩
  refine r_if_eq C0 6 18 dX5_barn_6 (by decide) (fun c_6 => ?_) (fun c_6 => ?_)
  · refine r_iconst C0 18 (-1) dX5_barn_18 (by decide) ?_
    refine r_iret C 19 dX5_barn_19 (Nat.le_refl _) (Nat.le_refl _) ?_
    exact ⟨by simp [brnA, eq_true c_6], rfl⟩
  · refine r_iload_n C0 9 2 dX5_barn_9 rfl rfl ?_
    refine r_iconst C0 10 0 dX5_barn_10 (by decide) ?_
    refine r_iconst C0 11 4 dX5_barn_11 (by decide) ?_
    refine s_call (As := [.int _, .int _, .int _]) C0 12 3 (k5_in hX _ _ _ _) (rm5_in (by decide) (by decide) (Nat.le_refl _) (Nat.le_refl _)) ml5_102 st5_in rfl (Nat.le_of_ble_eq_true rfl) dX5_barn_12 ?_
    rintro _ _ ⟨rfl, rfl⟩
    refine r_if_ne C0 15 20 dX5_barn_15 (by decide) (fun c_15 => ?_) (fun c_15 => ?_)
    · obtain ⟨x, hx, rfl⟩ := inR_3 c_6
      have hcl : (nI x).toNatClampNeg = x := nI_clamp (by omega)
      refine r_iload_n C0 20 2 dX5_barn_20 rfl rfl ?_
      refine r_if_ne C0 21 36 dX5_barn_21 (by decide) (fun c_21 => ?_) (fun c_21 => ?_)
      · obtain ⟨y, hy, rfl⟩ := inR_x (n := 4) rfl c_15
        have hcl2 : (nI y).toNatClampNeg = y := nI_clamp (by omega)
        have hy0 : 0 < y := Nat.pos_of_ne_zero (fun q => c_21 (by rw [q]; rfl))
        refine r_aload_n C0 36 0 dX5_barn_36 rfl rfl ?_
        refine m_getA C0 37 15 (by decide) fl5_43 rfl dX5_barn_37 ?_
        refine r_iconst C0 40 4 dX5_barn_40 (by decide) ?_
        refine r_iload_n C0 41 2 dX5_barn_41 rfl rfl ?_
        refine r_iconst C0 42 1 dX5_barn_42 (by decide) ?_
        refine r_isub C0 43 dX5_barn_43 ?_
        refine r_imul C0 44 dX5_barn_44 ?_
        refine r_iload_n C0 45 1 dX5_barn_45 rfl rfl ?_
        refine r_iadd C0 46 dX5_barn_46 ?_
        refine m_ld C0 47 (4 * (y - 1) + x) rfl (nI_add' (nI_mul' (a := 4) rfl (nI_pr rfl hy0)) rfl) (show _ < 20 by omega) dX5_barn_47 ?_
        refine r_iret C 48 dX5_barn_48 (Nat.le_refl _) (Nat.le_refl _) ?_
        exact ⟨by simp only [brnA, hcl, hcl2, eq_false c_6, eq_false c_15, eq_false c_21]; rfl, rfl⟩
      · refine r_aload_n C0 24 0 dX5_barn_24 rfl rfl ?_
        refine m_getA C0 25 15 (by decide) fl5_43 rfl dX5_barn_25 ?_
        refine r_bipush C0 28 16 dX5_barn_28 (by decide) ?_
        refine r_iload_n C0 30 1 dX5_barn_30 rfl rfl ?_
        refine r_iadd C0 31 dX5_barn_31 ?_
        refine m_ld C0 32 (16 + x) rfl (nI_add 16 x) (show _ < 20 by omega) dX5_barn_32 ?_
        refine r_goto C0 33 48 dX5_barn_33 (by decide) ?_
        refine r_iret C 48 dX5_barn_48 (Nat.le_refl _) (Nat.le_refl _) ?_
        exact ⟨by simp only [brnA, hcl, eq_false c_6, eq_false c_15, eq_true c_21]; rfl, rfl⟩
    · refine r_iconst C0 18 (-1) dX5_barn_18 (by decide) ?_
      refine r_iret C 19 dX5_barn_19 (Nat.le_refl _) (Nat.le_refl _) ?_
      exact ⟨by simp [brnA, eq_false c_6, eq_true c_15], rfl⟩
theorem k5_grade (hX : Xok X) (p v : Int32)  : Cn D ar X yX5_grade cX5_grade 4 (some .int) 2 42 0 0 [.ref h1, .int p, .int v] (mW ar h1 ad M T) (fun r w => r = some (.int (grdA M p v).2) ∧ w = mW ar h1 ad (grdA M p v).1 T) := by
  refine Cn.of (own := RX5) hX (by decide) rfl (Nat.le_of_ble_eq_true rfl) (fun j C => ?_)
  have C0 := C.to
  show j _ 0 0 0 [(0, _), (1, _), (2, _)] []
  refine r_iload_n C0 0 1 dX5_grade_0 rfl rfl ?_
  refine s_call (As := [.int _]) C0 1 1 (k5_isPacker hX _ _) (rm5_isPacker (by decide) (by decide) (Nat.le_refl _) (Nat.le_refl _)) ml5_159 st5_isPacker rfl (Nat.le_of_ble_eq_true rfl) dX5_grade_1 ?_
  rintro _ _ ⟨rfl, rfl⟩
  refine r_if_eq C0 4 16 dX5_grade_4 (by decide) (fun c_4 => ?_) (fun c_4 => ?_)
  · refine r_iconst C0 16 (-1) dX5_grade_16 (by decide) ?_
    refine r_iret C 17 dX5_grade_17 (Nat.le_refl _) (Nat.le_refl _) ?_
    exact ⟨by simp [grdA, eq_true c_4], by simp [grdA, eq_true c_4]⟩
  · refine r_iload_n C0 7 2 dX5_grade_7 rfl rfl ?_
    refine r_iconst C0 8 0 dX5_grade_8 (by decide) ?_
    refine r_iconst C0 9 5 dX5_grade_9 (by decide) ?_
    refine s_call (As := [.int _, .int _, .int _]) C0 10 3 (k5_in hX _ _ _ _) (rm5_in (by decide) (by decide) (Nat.le_refl _) (Nat.le_refl _)) ml5_102 st5_in rfl (Nat.le_of_ble_eq_true rfl) dX5_grade_10 ?_
    rintro _ _ ⟨rfl, rfl⟩
    refine r_if_ne C0 13 18 dX5_grade_13 (by decide) (fun c_13 => ?_) (fun c_13 => ?_)
    · obtain ⟨x, hx, rfl⟩ := inR_3 c_4
      have hcl : (nI x).toNatClampNeg = x := nI_clamp (by omega)
      refine r_aload_n C0 18 0 dX5_grade_18 rfl rfl ?_
      refine m_getA C0 19 19 (by decide) fl5_56 rfl dX5_grade_19 ?_
      refine r_iload_n C0 22 1 dX5_grade_22 rfl rfl ?_
      refine m_ld C0 23 x rfl rfl hx dX5_grade_23 ?_
      refine r_if_le C0 24 30 dX5_grade_24 (by decide) (fun c_24 => ?_) (fun c_24 => ?_)
      · refine r_aload_n C0 30 0 dX5_grade_30 rfl rfl ?_
        refine m_getA C0 31 16 (by decide) fl5_46 rfl dX5_grade_31 ?_
        refine r_iload_n C0 34 1 dX5_grade_34 rfl rfl ?_
        refine m_ld C0 35 x rfl rfl hx dX5_grade_35 ?_
        refine r_istore_n (lv' := [(0, _), (1, _), (2, _), (3, _)]) C0 36 3 dX5_grade_36 rfl rfl (by decide) rfl ?_
        refine r_aload_n C0 37 0 dX5_grade_37 rfl rfl ?_
        refine m_getA C0 38 16 (by decide) fl5_46 rfl dX5_grade_38 ?_
        refine r_iload_n C0 41 1 dX5_grade_41 rfl rfl ?_
        refine r_iload_n C0 42 2 dX5_grade_42 rfl rfl ?_
        refine m_st C0 43 x rfl rfl hx dX5_grade_43 ?_
        refine r_iload_n C0 44 3 dX5_grade_44 rfl rfl ?_
        refine r_iret C 45 dX5_grade_45 (Nat.le_refl _) (Nat.le_refl _) ?_
        exact ⟨by simp only [grdA, hcl, eq_false c_4, eq_false c_13, eq_true c_24]; rfl, by simp only [grdA, hcl, eq_false c_4, eq_false c_13, eq_true c_24]; rfl⟩
      · refine r_bipush C0 27 (-2) dX5_grade_27 (by decide) ?_
        refine r_iret C 29 dX5_grade_29 (Nat.le_refl _) (Nat.le_refl _) ?_
        exact ⟨by simp only [grdA, hcl, eq_false c_4, eq_false c_13, eq_false c_24]; rfl, by simp only [grdA, hcl, eq_false c_4, eq_false c_13, eq_false c_24]; rfl⟩
    · refine r_iconst C0 16 (-1) dX5_grade_16 (by decide) ?_
      refine r_iret C 17 dX5_grade_17 (Nat.le_refl _) (Nat.le_refl _) ?_
      exact ⟨by simp [grdA, eq_false c_4, eq_true c_13], by simp [grdA, eq_false c_4, eq_true c_13]⟩
theorem k5_on (hX : Xok X) (p z : Int32)  : Cn D ar X yX5_on cX5_on 4 (some .int) 2 42 0 0 [.ref h1, .int p, .int z] (mW ar h1 ad M T) (fun r w => r = some (.int (onA M p z).2) ∧ w = mW ar h1 ad (onA M p z).1 T) := by
  refine Cn.of (own := RX5) hX (by decide) rfl (Nat.le_of_ble_eq_true rfl) (fun j C => ?_)
  have C0 := C.to
  show j _ 0 0 0 [(0, _), (1, _), (2, _)] []
  refine r_iload_n C0 0 1 dX5_on_0 rfl rfl ?_
  refine s_call (As := [.int _]) C0 1 1 (k5_isPacker hX _ _) (rm5_isPacker (by decide) (by decide) (Nat.le_refl _) (Nat.le_refl _)) ml5_159 st5_isPacker rfl (Nat.le_of_ble_eq_true rfl) dX5_on_1 ?_
  rintro _ _ ⟨rfl, rfl⟩
  refine r_if_ne C0 4 9 dX5_on_4 (by decide) (fun c_4 => ?_) (fun c_4 => ?_)
  · obtain ⟨x, hx, rfl⟩ := inR_3 c_4
    have hcl : (nI x).toNatClampNeg = x := nI_clamp (by omega)
    refine r_aload_n C0 9 0 dX5_on_9 rfl rfl ?_
    refine m_getA C0 10 17 (by decide) fl5_49 rfl dX5_on_10 ?_
    refine r_iload_n C0 13 1 dX5_on_13 rfl rfl ?_
    refine m_ldz C0 14 x rfl rfl hx dX5_on_14 ?_
    refine r_if_eq C0 15 22 dX5_on_15 (by decide) (fun c_15 => ?_) (fun c_15 => ?_)
    · refine r_iconst C0 22 1 dX5_on_22 (by decide) ?_
      refine r_istore_n (lv' := [(0, _), (1, _), (2, _), (3, _)]) C0 23 3 dX5_on_23 rfl rfl (by decide) rfl ?_
      refine r_aload_n C0 24 0 dX5_on_24 rfl rfl ?_
      refine m_getA C0 25 17 (by decide) fl5_49 rfl dX5_on_25 ?_
      refine r_iload_n C0 28 1 dX5_on_28 rfl rfl ?_
      refine r_iload_n C0 29 2 dX5_on_29 rfl rfl ?_
      refine r_if_ne C0 30 37 dX5_on_30 (by decide) (fun c_30 => ?_) (fun c_30 => ?_)
      · refine r_iconst C0 37 0 dX5_on_37 (by decide) ?_
        refine m_stz C0 38 x rfl rfl hx rfl dX5_on_38 ?_
        refine r_iload_n C0 39 3 dX5_on_39 rfl rfl ?_
        refine r_iret C 40 dX5_on_40 (Nat.le_refl _) (Nat.le_refl _) ?_
        exact ⟨by simp only [onA, hcl, eq_false c_4, eq_true c_15, eq_false c_30]; rfl, by simp only [onA, hcl, eq_false c_4, eq_true c_15, eq_false c_30]; rfl⟩
      · refine r_iconst C0 33 1 dX5_on_33 (by decide) ?_
        refine r_goto C0 34 38 dX5_on_34 (by decide) ?_
        refine m_stz C0 38 x rfl rfl hx rfl dX5_on_38 ?_
        refine r_iload_n C0 39 3 dX5_on_39 rfl rfl ?_
        refine r_iret C 40 dX5_on_40 (Nat.le_refl _) (Nat.le_refl _) ?_
        exact ⟨by simp only [onA, hcl, eq_false c_4, eq_true c_15, eq_true c_30]; rfl, by simp only [onA, hcl, eq_false c_4, eq_true c_15, eq_true c_30]; rfl⟩
    · refine r_iconst C0 18 0 dX5_on_18 (by decide) ?_
      refine r_goto C0 19 23 dX5_on_19 (by decide) ?_
      refine r_istore_n (lv' := [(0, _), (1, _), (2, _), (3, _)]) C0 23 3 dX5_on_23 rfl rfl (by decide) rfl ?_
      refine r_aload_n C0 24 0 dX5_on_24 rfl rfl ?_
      refine m_getA C0 25 17 (by decide) fl5_49 rfl dX5_on_25 ?_
      refine r_iload_n C0 28 1 dX5_on_28 rfl rfl ?_
      refine r_iload_n C0 29 2 dX5_on_29 rfl rfl ?_
      refine r_if_ne C0 30 37 dX5_on_30 (by decide) (fun c_30 => ?_) (fun c_30 => ?_)
      · refine r_iconst C0 37 0 dX5_on_37 (by decide) ?_
        refine m_stz C0 38 x rfl rfl hx rfl dX5_on_38 ?_
        refine r_iload_n C0 39 3 dX5_on_39 rfl rfl ?_
        refine r_iret C 40 dX5_on_40 (Nat.le_refl _) (Nat.le_refl _) ?_
        exact ⟨by simp only [onA, hcl, eq_false c_4, eq_false c_15, eq_false c_30]; rfl, by simp only [onA, hcl, eq_false c_4, eq_false c_15, eq_false c_30]; rfl⟩
      · refine r_iconst C0 33 1 dX5_on_33 (by decide) ?_
        refine r_goto C0 34 38 dX5_on_34 (by decide) ?_
        refine m_stz C0 38 x rfl rfl hx rfl dX5_on_38 ?_
        refine r_iload_n C0 39 3 dX5_on_39 rfl rfl ?_
        refine r_iret C 40 dX5_on_40 (Nat.le_refl _) (Nat.le_refl _) ?_
        exact ⟨by simp only [onA, hcl, eq_false c_4, eq_false c_15, eq_true c_30]; rfl, by simp only [onA, hcl, eq_false c_4, eq_false c_15, eq_true c_30]; rfl⟩
  · refine r_iconst C0 7 (-1) dX5_on_7 (by decide) ?_
    refine r_iret C 8 dX5_on_8 (Nat.le_refl _) (Nat.le_refl _) ?_
    exact ⟨by simp [onA, eq_true c_4], by simp [onA, eq_true c_4]⟩
theorem k5_egg (hX : Xok X) {E Q : Nat} (hE : M 0 0 = nI E) (hE6 : E < 600) (hQ : M 8 0 = nI Q) (hQ2 : Q ≤ 20) (b w9 t r9 d : Int32)  : Cn D ar X yX5_egg cX5_egg 6 (some .int) 1 22 0 0 [.ref h1, .int b, .int w9, .int t, .int r9, .int d] (mW ar h1 ad M T) (fun r w => r = some (.int (eggA M E Q b w9 t r9 d).2) ∧ w = mW ar h1 ad (eggA M E Q b w9 t r9 d).1 T) := by
  refine Cn.of (own := RX5) hX (by decide) rfl (Nat.le_of_ble_eq_true rfl) (fun j C => ?_)
  have C0 := C.to
  show j _ 0 0 0 [(0, _), (1, _), (2, _), (3, _), (4, _), (5, _)] []
  refine r_iload_n C0 0 1 dX5_egg_0 rfl rfl ?_
  refine r_iconst C0 1 0 dX5_egg_1 (by decide) ?_
  refine r_iconst C0 2 3 dX5_egg_2 (by decide) ?_
  refine s_call (As := [.int _, .int _, .int _]) C0 3 3 (k5_in hX _ _ _ _) (rm5_in (by decide) (by decide) (Nat.le_refl _) (Nat.le_refl _)) ml5_102 st5_in rfl (Nat.le_of_ble_eq_true rfl) dX5_egg_3 ?_
  rintro _ _ ⟨rfl, rfl⟩
  refine r_if_eq C0 6 51 dX5_egg_6 (by decide) (fun c_6 => ?_) (fun c_6 => ?_)
  · refine r_iconst C0 51 (-1) dX5_egg_51 (by decide) ?_
    refine r_iret C 52 dX5_egg_52 (Nat.le_refl _) (Nat.le_refl _) ?_
    exact ⟨by simp [eggA, eq_true c_6], by simp [eggA, eq_true c_6]⟩
  · refine r_iload_n C0 9 2 dX5_egg_9 rfl rfl ?_
    refine r_bipush C0 10 30 dX5_egg_10 (by decide) ?_
    refine r_bipush C0 12 90 dX5_egg_12 (by decide) ?_
    refine s_call (As := [.int _, .int _, .int _]) C0 14 3 (k5_in hX _ _ _ _) (rm5_in (by decide) (by decide) (Nat.le_refl _) (Nat.le_refl _)) ml5_102 st5_in rfl (Nat.le_of_ble_eq_true rfl) dX5_egg_14 ?_
    rintro _ _ ⟨rfl, rfl⟩
    refine r_if_eq C0 17 51 dX5_egg_17 (by decide) (fun c_17 => ?_) (fun c_17 => ?_)
    · refine r_iconst C0 51 (-1) dX5_egg_51 (by decide) ?_
      refine r_iret C 52 dX5_egg_52 (Nat.le_refl _) (Nat.le_refl _) ?_
      exact ⟨by simp [eggA, eq_false c_6, eq_true c_17], by simp [eggA, eq_false c_6, eq_true c_17]⟩
    · refine r_iload_n C0 20 3 dX5_egg_20 rfl rfl ?_
      refine r_iconst C0 21 0 dX5_egg_21 (by decide) ?_
      refine r_bipush C0 22 15 dX5_egg_22 (by decide) ?_
      refine s_call (As := [.int _, .int _, .int _]) C0 24 3 (k5_in hX _ _ _ _) (rm5_in (by decide) (by decide) (Nat.le_refl _) (Nat.le_refl _)) ml5_102 st5_in rfl (Nat.le_of_ble_eq_true rfl) dX5_egg_24 ?_
      rintro _ _ ⟨rfl, rfl⟩
      refine r_if_eq C0 27 51 dX5_egg_27 (by decide) (fun c_27 => ?_) (fun c_27 => ?_)
      · refine r_iconst C0 51 (-1) dX5_egg_51 (by decide) ?_
        refine r_iret C 52 dX5_egg_52 (Nat.le_refl _) (Nat.le_refl _) ?_
        exact ⟨by simp [eggA, eq_false c_6, eq_false c_17, eq_true c_27], by simp [eggA, eq_false c_6, eq_false c_17, eq_true c_27]⟩
      · refine r_iload C0 30 dX5_egg_30 rfl ?_
        refine r_iconst C0 32 0 dX5_egg_32 (by decide) ?_
        refine r_bipush C0 33 9 dX5_egg_33 (by decide) ?_
        refine s_call (As := [.int _, .int _, .int _]) C0 35 3 (k5_in hX _ _ _ _) (rm5_in (by decide) (by decide) (Nat.le_refl _) (Nat.le_refl _)) ml5_102 st5_in rfl (Nat.le_of_ble_eq_true rfl) dX5_egg_35 ?_
        rintro _ _ ⟨rfl, rfl⟩
        refine r_if_eq C0 38 51 dX5_egg_38 (by decide) (fun c_38 => ?_) (fun c_38 => ?_)
        · refine r_iconst C0 51 (-1) dX5_egg_51 (by decide) ?_
          refine r_iret C 52 dX5_egg_52 (Nat.le_refl _) (Nat.le_refl _) ?_
          exact ⟨by simp [eggA, eq_false c_6, eq_false c_17, eq_false c_27, eq_true c_38], by simp [eggA, eq_false c_6, eq_false c_17, eq_false c_27, eq_true c_38]⟩
        · refine r_iload C0 41 dX5_egg_41 rfl ?_
          refine r_iconst C0 43 0 dX5_egg_43 (by decide) ?_
          refine r_iconst C0 44 3 dX5_egg_44 (by decide) ?_
          refine s_call (As := [.int _, .int _, .int _]) C0 45 3 (k5_in hX _ _ _ _) (rm5_in (by decide) (by decide) (Nat.le_refl _) (Nat.le_refl _)) ml5_102 st5_in rfl (Nat.le_of_ble_eq_true rfl) dX5_egg_45 ?_
          rintro _ _ ⟨rfl, rfl⟩
          refine r_if_ne C0 48 53 dX5_egg_48 (by decide) (fun c_48 => ?_) (fun c_48 => ?_)
          · refine r_aload_n C0 53 0 dX5_egg_53 rfl rfl ?_
            refine m_getI C0 54 8 rfl fl5_106 rfl dX5_egg_54 ?_
            refine r_bipush C0 57 20 dX5_egg_57 (by decide) ?_
            refine r_icmp_ne C0 59 65 dX5_egg_59 (by decide) (fun c_59 => ?_) (fun c_59 => ?_)
            · have hlt : Q < 20 := Nat.lt_of_le_of_ne hQ2 (fun q => c_59 (by rw [hQ, q]; rfl))
              obtain ⟨x, hx, rfl⟩ := inR_3 c_6
              have hcl : (nI x).toNatClampNeg = x := nI_clamp (by omega)
              refine r_aload_n C0 65 0 dX5_egg_65 rfl rfl ?_
              refine m_getA C0 66 1 (by decide) fl5_7 rfl dX5_egg_66 ?_
              refine r_aload_n C0 69 0 dX5_egg_69 rfl rfl ?_
              refine m_getI C0 70 0 rfl fl5_109 rfl dX5_egg_70 ?_
              refine r_iload_n C0 73 1 dX5_egg_73 rfl rfl ?_
              refine m_st C0 74 E rfl hE (show E < 600 by omega) dX5_egg_74 ?_
              refine r_aload_n C0 75 0 dX5_egg_75 rfl rfl ?_
              refine m_getA C0 76 2 (by decide) fl5_13 rfl dX5_egg_76 ?_
              refine r_aload_n C0 79 0 dX5_egg_79 rfl rfl ?_
              refine m_getI C0 80 0 rfl fl5_109 rfl dX5_egg_80 ?_
              refine r_iload_n C0 83 2 dX5_egg_83 rfl rfl ?_
              refine m_st C0 84 E rfl hE (show E < 600 by omega) dX5_egg_84 ?_
              refine r_aload_n C0 85 0 dX5_egg_85 rfl rfl ?_
              refine m_getA C0 86 3 (by decide) fl5_16 rfl dX5_egg_86 ?_
              refine r_aload_n C0 89 0 dX5_egg_89 rfl rfl ?_
              refine m_getI C0 90 0 rfl fl5_109 rfl dX5_egg_90 ?_
              refine r_iload_n C0 93 3 dX5_egg_93 rfl rfl ?_
              refine m_st C0 94 E rfl hE (show E < 600 by omega) dX5_egg_94 ?_
              refine r_aload_n C0 95 0 dX5_egg_95 rfl rfl ?_
              refine m_getA C0 96 4 (by decide) fl5_19 rfl dX5_egg_96 ?_
              refine r_aload_n C0 99 0 dX5_egg_99 rfl rfl ?_
              refine m_getI C0 100 0 rfl fl5_109 rfl dX5_egg_100 ?_
              refine r_iload C0 103 dX5_egg_103 rfl ?_
              refine m_st C0 105 E rfl hE (show E < 600 by omega) dX5_egg_105 ?_
              refine r_aload_n C0 106 0 dX5_egg_106 rfl rfl ?_
              refine m_getA C0 107 5 (by decide) fl5_22 rfl dX5_egg_107 ?_
              refine r_aload_n C0 110 0 dX5_egg_110 rfl rfl ?_
              refine m_getI C0 111 0 rfl fl5_109 rfl dX5_egg_111 ?_
              refine r_iload C0 114 dX5_egg_114 rfl ?_
              refine m_st C0 116 E rfl hE (show E < 600 by omega) dX5_egg_116 ?_
              refine r_aload_n C0 117 0 dX5_egg_117 rfl rfl ?_
              refine m_getA C0 118 9 (by decide) fl5_31 rfl dX5_egg_118 ?_
              refine r_aload_n C0 121 0 dX5_egg_121 rfl rfl ?_
              refine m_getI C0 122 8 rfl fl5_106 rfl dX5_egg_122 ?_
              refine r_aload_n C0 125 0 dX5_egg_125 rfl rfl ?_
              refine m_getI C0 126 0 rfl fl5_109 rfl dX5_egg_126 ?_
              refine m_st C0 129 Q rfl hQ hlt dX5_egg_129 ?_
              refine r_aload_n C0 130 0 dX5_egg_130 rfl rfl ?_
              refine r_dup C0 131 dX5_egg_131 rfl ?_
              refine m_getI C0 132 8 rfl fl5_106 rfl dX5_egg_132 ?_
              refine r_iconst C0 135 1 dX5_egg_135 (by decide) ?_
              refine r_iadd C0 136 dX5_egg_136 ?_
              refine m_put C0 137 8 rfl fl5_106 rfl dX5_egg_137 ?_
              refine r_aload_n C0 140 0 dX5_egg_140 rfl rfl ?_
              refine m_getA C0 141 15 (by decide) fl5_43 rfl dX5_egg_141 ?_
              refine r_bipush C0 144 16 dX5_egg_144 (by decide) ?_
              refine r_iload_n C0 146 1 dX5_egg_146 rfl rfl ?_
              refine r_iadd C0 147 dX5_egg_147 ?_
              refine r_dup2 C0 148 dX5_egg_148 rfl rfl ?_
              refine m_ld C0 149 (16 + x) rfl (nI_add 16 x) (show _ < 20 by omega) dX5_egg_149 ?_
              refine r_iconst C0 150 1 dX5_egg_150 (by decide) ?_
              refine r_iadd C0 151 dX5_egg_151 ?_
              refine m_st C0 152 (16 + x) rfl (nI_add 16 x) (show _ < 20 by omega) dX5_egg_152 ?_
              refine r_aload_n C0 153 0 dX5_egg_153 rfl rfl ?_
              refine r_dup C0 154 dX5_egg_154 rfl ?_
              refine m_getI C0 155 0 rfl fl5_109 rfl dX5_egg_155 ?_
              refine r_iconst C0 158 1 dX5_egg_158 (by decide) ?_
              refine r_iadd C0 159 dX5_egg_159 ?_
              refine m_put C0 160 0 rfl fl5_109 rfl dX5_egg_160 ?_
              refine r_aload_n C0 163 0 dX5_egg_163 rfl rfl ?_
              refine m_getI C0 164 0 rfl fl5_109 rfl dX5_egg_164 ?_
              refine r_iconst C0 167 1 dX5_egg_167 (by decide) ?_
              refine r_isub C0 168 dX5_egg_168 ?_
              refine r_iret C 169 dX5_egg_169 (Nat.le_refl _) (Nat.le_refl _) ?_
              exact ⟨by simp only [eggA, eq_false c_6, eq_false c_17, eq_false c_27, eq_false c_38, eq_false c_48, eq_false c_59]; rfl, by simp only [eggA, eggM, hcl, eq_false c_6, eq_false c_17, eq_false c_27, eq_false c_38, eq_false c_48, eq_false c_59]; rfl⟩
            · refine r_bipush C0 62 (-3) dX5_egg_62 (by decide) ?_
              refine r_iret C 64 dX5_egg_64 (Nat.le_refl _) (Nat.le_refl _) ?_
              exact ⟨by simp [eggA, eq_false c_6, eq_false c_17, eq_false c_27, eq_false c_38, eq_false c_48, eq_true c_59], by simp [eggA, eq_false c_6, eq_false c_17, eq_false c_27, eq_false c_38, eq_false c_48, eq_true c_59]⟩
          · refine r_iconst C0 51 (-1) dX5_egg_51 (by decide) ?_
            refine r_iret C 52 dX5_egg_52 (Nat.le_refl _) (Nat.le_refl _) ?_
            exact ⟨by simp [eggA, eq_false c_6, eq_false c_17, eq_false c_27, eq_false c_38, eq_true c_48], by simp [eggA, eq_false c_6, eq_false c_17, eq_false c_27, eq_false c_38, eq_true c_48]⟩
end M9
