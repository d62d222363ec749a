/-! the model: its small methods -/
def inR (v a b : Int32) : Int32 := if a ≤ v ∧ v ≤ b then 1 else 0
theorem inR_0 {v a b : Int32} : inR v a b = 0 ↔ ¬ (a ≤ v ∧ v ≤ b) := by
  unfold inR
  by_cases h : a ≤ v ∧ v ≤ b
  · rw [if_pos h]
    exact ⟨fun q => absurd q (by decide), fun q => absurd h q⟩
  · rw [if_neg h]
    exact ⟨fun _ => h, fun _ => rfl⟩
theorem inR_a {v a b : Int32} (h : v < a) : inR v a b = 0 := if_neg (fun q => Int32.not_le.mpr h q.1)
theorem inR_b {v a b : Int32} (h : b < v) : inR v a b = 0 := if_neg (fun q => Int32.not_le.mpr h q.2)
theorem inR_c {v a b : Int32} (h : ¬ v < a) (h2 : ¬ b < v) : inR v a b = 1 := if_pos ⟨Int32.not_lt.mp h, Int32.not_lt.mp h2⟩
theorem inR_nar {v a b : Int32} : narrow .boolean (.int (inR v a b)) = .int (inR v a b) := by
  unfold inR
  by_cases h : a ≤ v ∧ v ≤ b
  · rw [if_pos h]; rfl
  · rw [if_neg h]; rfl
def gradeN (v : Int32) : Int32 := if 43 ≤ v then if 48 ≤ v then if 53 ≤ v then if 58 ≤ v then if 63 ≤ v then 5 else 4 else 3 else 2 else 1 else 0
def dullN (t : Int32) : Int32 := (t &&& 1) + ((t >>> ((1 : Int32) &&& 31)) &&& 1) + ((t >>> ((2 : Int32) &&& 31)) &&& 1) + ((t >>> ((3 : Int32) &&& 31)) &&& 1)

section M5
variable {D : va_G} {ar : Nat → ClassId} {X : XT} {h1 : Nat} {ad : Nat → Nat} {M : Nat → Nat → Int32} {T : Int64}
theorem k5_in (hX : Xok X) (ws : va_W) (v a b : Int32)  : Cn D ar X yX5_in cX5_in 3 (some .boolean) 0 0 0 0 [.int v, .int a, .int b] ws (fun r w => r = some (.int (inR v a b)) ∧ w = ws) := by
  refine Cn.of (own := RX5) hX (by decide) rfl (Nat.le_of_ble_eq_true rfl) (fun j C => ?_)
  have C0 := C.to
  show j _ 0 0 0 [(0, _), (1, _), (2, _)] []
  refine r_iload_n C0 0 0 dX5_in_0 rfl rfl ?_
  refine r_iload_n C0 1 1 dX5_in_1 rfl rfl ?_
  refine r_icmp_lt C0 2 14 dX5_in_2 (by decide) (fun c_2 => ?_) (fun c_2 => ?_)
  · refine r_iconst C0 14 0 dX5_in_14 (by decide) ?_
    refine r_zret C 15 rfl dX5_in_15 (Nat.le_refl _) (Nat.le_refl _) ?_
    first | exact ⟨by rw [inR_a c_2], rfl⟩ | exact ⟨by rw [inR_b c_7], rfl⟩ | exact ⟨by rw [inR_c c_2 c_7], rfl⟩
  · refine r_iload_n C0 5 0 dX5_in_5 rfl rfl ?_
    refine r_iload_n C0 6 2 dX5_in_6 rfl rfl ?_
    refine r_icmp_gt C0 7 14 dX5_in_7 (by decide) (fun c_7 => ?_) (fun c_7 => ?_)
    · refine r_iconst C0 14 0 dX5_in_14 (by decide) ?_
      refine r_zret C 15 rfl dX5_in_15 (Nat.le_refl _) (Nat.le_refl _) ?_
      first | exact ⟨by rw [inR_a c_2], rfl⟩ | exact ⟨by rw [inR_b c_7], rfl⟩ | exact ⟨by rw [inR_c c_2 c_7], rfl⟩
    · refine r_iconst C0 10 1 dX5_in_10 (by decide) ?_
      refine r_goto C0 11 15 dX5_in_11 (by decide) ?_
      refine r_zret C 15 rfl dX5_in_15 (Nat.le_refl _) (Nat.le_refl _) ?_
      first | exact ⟨by rw [inR_a c_2], rfl⟩ | exact ⟨by rw [inR_b c_7], rfl⟩ | exact ⟨by rw [inR_c c_2 c_7], rfl⟩
theorem k5_gradeBy (hX : Xok X) (ws : va_W) (v : Int32)  : Cn D ar X yX5_gradeBy cX5_gradeBy 1 (some .int) 0 0 0 0 [.int v] ws (fun r w => r = some (.int (gradeN v)) ∧ w = ws) := by
  refine Cn.of (own := RX5) hX (by decide) rfl (Nat.le_of_ble_eq_true rfl) (fun j C => ?_)
  have C0 := C.to
  show j _ 0 0 0 [(0, _)] []
  refine r_iload_n C0 0 0 dX5_gradeBy_0 rfl rfl ?_
  refine r_bipush C0 1 43 dX5_gradeBy_1 (by decide) ?_
  refine r_icmp_ge C0 3 10 dX5_gradeBy_3 (by decide) (fun c_3 => ?_) (fun c_3 => ?_)
  · refine r_iload_n C0 10 0 dX5_gradeBy_10 rfl rfl ?_
    refine r_bipush C0 11 48 dX5_gradeBy_11 (by decide) ?_
    refine r_icmp_ge C0 13 20 dX5_gradeBy_13 (by decide) (fun c_13 => ?_) (fun c_13 => ?_)
    · refine r_iload_n C0 20 0 dX5_gradeBy_20 rfl rfl ?_
      refine r_bipush C0 21 53 dX5_gradeBy_21 (by decide) ?_
      refine r_icmp_ge C0 23 30 dX5_gradeBy_23 (by decide) (fun c_23 => ?_) (fun c_23 => ?_)
      · refine r_iload_n C0 30 0 dX5_gradeBy_30 rfl rfl ?_
        refine r_bipush C0 31 58 dX5_gradeBy_31 (by decide) ?_
        refine r_icmp_ge C0 33 40 dX5_gradeBy_33 (by decide) (fun c_33 => ?_) (fun c_33 => ?_)
        · refine r_iload_n C0 40 0 dX5_gradeBy_40 rfl rfl ?_
          refine r_bipush C0 41 63 dX5_gradeBy_41 (by decide) ?_
          refine r_icmp_ge C0 43 50 dX5_gradeBy_43 (by decide) (fun c_43 => ?_) (fun c_43 => ?_)
          · refine r_iconst C0 50 5 dX5_gradeBy_50 (by decide) ?_
            refine r_iret C 51 dX5_gradeBy_51 (Nat.le_refl _) (Nat.le_refl _) ?_
            exact ⟨by simp [gradeN, *], rfl⟩
          · refine r_iconst C0 46 4 dX5_gradeBy_46 (by decide) ?_
            refine r_goto C0 47 51 dX5_gradeBy_47 (by decide) ?_
            refine r_iret C 51 dX5_gradeBy_51 (Nat.le_refl _) (Nat.le_refl _) ?_
            exact ⟨by simp [gradeN, *], rfl⟩
        · refine r_iconst C0 36 3 dX5_gradeBy_36 (by decide) ?_
          refine r_goto C0 37 51 dX5_gradeBy_37 (by decide) ?_
          refine r_iret C 51 dX5_gradeBy_51 (Nat.le_refl _) (Nat.le_refl _) ?_
          exact ⟨by simp [gradeN, *], rfl⟩
      · refine r_iconst C0 26 2 dX5_gradeBy_26 (by decide) ?_
        refine r_goto C0 27 51 dX5_gradeBy_27 (by decide) ?_
        refine r_iret C 51 dX5_gradeBy_51 (Nat.le_refl _) (Nat.le_refl _) ?_
        exact ⟨by simp [gradeN, *], rfl⟩
    · refine r_iconst C0 16 1 dX5_gradeBy_16 (by decide) ?_
      refine r_goto C0 17 51 dX5_gradeBy_17 (by decide) ?_
      refine r_iret C 51 dX5_gradeBy_51 (Nat.le_refl _) (Nat.le_refl _) ?_
      exact ⟨by simp [gradeN, *], rfl⟩
  · refine r_iconst C0 6 0 dX5_gradeBy_6 (by decide) ?_
    refine r_goto C0 7 51 dX5_gradeBy_7 (by decide) ?_
    refine r_iret C 51 dX5_gradeBy_51 (Nat.le_refl _) (Nat.le_refl _) ?_
    exact ⟨by simp [gradeN, *], rfl⟩
theorem k5_dull (hX : Xok X) (ws : va_W) (t : Int32)  : Cn D ar X yX5_dull cX5_dull 1 (some .int) 0 0 0 0 [.int t] ws (fun r w => r = some (.int (dullN t)) ∧ w = ws) := by
  refine Cn.of (own := RX5) hX (by decide) rfl (Nat.le_of_ble_eq_true rfl) (fun j C => ?_)
  have C0 := C.to
  show j _ 0 0 0 [(0, _)] []
  refine r_iload_n C0 0 0 dX5_dull_0 rfl rfl ?_
  refine r_iconst C0 1 1 dX5_dull_1 (by decide) ?_
  refine r_iand C0 2 dX5_dull_2 ?_
  refine r_iload_n C0 3 0 dX5_dull_3 rfl rfl ?_
  refine r_iconst C0 4 1 dX5_dull_4 (by decide) ?_
  refine r_ishr C0 5 dX5_dull_5 ?_
  refine r_iconst C0 6 1 dX5_dull_6 (by decide) ?_
  refine r_iand C0 7 dX5_dull_7 ?_
  refine r_iadd C0 8 dX5_dull_8 ?_
  refine r_iload_n C0 9 0 dX5_dull_9 rfl rfl ?_
  refine r_iconst C0 10 2 dX5_dull_10 (by decide) ?_
  refine r_ishr C0 11 dX5_dull_11 ?_
  refine r_iconst C0 12 1 dX5_dull_12 (by decide) ?_
  refine r_iand C0 13 dX5_dull_13 ?_
  refine r_iadd C0 14 dX5_dull_14 ?_
  refine r_iload_n C0 15 0 dX5_dull_15 rfl rfl ?_
  refine r_iconst C0 16 3 dX5_dull_16 (by decide) ?_
  refine r_ishr C0 17 dX5_dull_17 ?_
  refine r_iconst C0 18 1 dX5_dull_18 (by decide) ?_
  refine r_iand C0 19 dX5_dull_19 ?_
  refine r_iadd C0 20 dX5_dull_20 ?_
  refine r_iret C 21 dX5_dull_21 (Nat.le_refl _) (Nat.le_refl _) ?_
  exact ⟨rfl, rfl⟩
theorem k5_isPacker (hX : Xok X) (ws : va_W) (v : Int32)  : Cn D ar X yX5_isPacker cX5_isPacker 1 (some .boolean) 1 22 0 0 [.int v] ws (fun r w => r = some (.int (inR v 0 3)) ∧ w = ws) := by
  refine Cn.of (own := RX5) hX (by decide) rfl (Nat.le_of_ble_eq_true rfl) (fun j C => ?_)
  have C0 := C.to
  show j _ 0 0 0 [(0, _)] []
  refine r_iload_n C0 0 0 dX5_isPacker_0 rfl rfl ?_
  refine r_iconst C0 1 0 dX5_isPacker_1 (by decide) ?_
  refine r_iconst C0 2 3 dX5_isPacker_2 (by decide) ?_
  refine s_call (As := [.int _, .int _, .int _]) C0 3 3 (k5_in hX _ _ _ _) (rm5_in (by decide) (by decide) (Nat.le_refl _) (Nat.le_refl _)) ml5_102 st5_in rfl (Nat.le_of_ble_eq_true rfl) dX5_isPacker_3 ?_
  rintro _ _ ⟨rfl, rfl⟩
  refine r_zret C 6 inR_nar dX5_isPacker_6 (Nat.le_refl _) (Nat.le_refl _) ?_
  exact ⟨rfl, rfl⟩
theorem k5_isPack (hX : Xok X) (v : Int32)  : Cn D ar X yX5_isPack cX5_isPack 2 (some .boolean) 1 22 0 0 [.ref h1, .int v] (mW ar h1 ad M T) (fun r w => r = some (.int (inR v 0 (M 21 0 - 1))) ∧ w = mW ar h1 ad M T) := by
  refine Cn.of (own := RX5) hX (by decide) rfl (Nat.le_of_ble_eq_true rfl) (fun j C => ?_)
  have C0 := C.to
  show j _ 0 0 0 [(0, _), (1, _)] []
  refine r_iload_n C0 0 1 dX5_isPack_0 rfl rfl ?_
  refine r_iconst C0 1 0 dX5_isPack_1 (by decide) ?_
  refine r_aload_n C0 2 0 dX5_isPack_2 rfl rfl ?_
  refine m_getI C0 3 21 rfl fl5_135 rfl dX5_isPack_3 ?_
  refine r_iconst C0 6 1 dX5_isPack_6 (by decide) ?_
  refine r_isub C0 7 dX5_isPack_7 ?_
  refine s_call (As := [.int _, .int _, .int _]) C0 8 3 (k5_in hX _ _ _ _) (rm5_in (by decide) (by decide) (Nat.le_refl _) (Nat.le_refl _)) ml5_102 st5_in rfl (Nat.le_of_ble_eq_true rfl) dX5_isPack_8 ?_
  rintro _ _ ⟨rfl, rfl⟩
  refine r_zret C 11 inR_nar dX5_isPack_11 (Nat.le_refl _) (Nat.le_refl _) ?_
  exact ⟨rfl, rfl⟩
theorem k5_trace (hX : Xok X)   : Cn D ar X yX5_trace cX5_trace 1 (some .long) 0 0 0 0 [.ref h1] (mW ar h1 ad M T) (fun r w => r = some (.long T) ∧ w = mW ar h1 ad M T) := by
  refine Cn.of (own := RX5) hX (by decide) rfl (Nat.le_of_ble_eq_true rfl) (fun j C => ?_)
  have C0 := C.to
  show j _ 0 0 0 [(0, _)] []
  refine r_aload_n C0 0 0 dX5_trace_0 rfl rfl ?_
  refine m_getT C0 1 fl5_112 dX5_trace_1 ?_
  refine r_lret C 4 dX5_trace_4 (Nat.le_refl _) (Nat.le_refl _) ?_
  exact ⟨rfl, rfl⟩
theorem k5_drift (hX : Xok X) (v : Int32)  : Cn D ar X yX5_drift cX5_drift 3 (some .int) 1 22 0 0 [.ref h1, .int v] (mW ar h1 ad M T) (fun r w => r = some (.int (if inR v (-9) 9 = 0 then -1000 else M 36 0)) ∧ w = mW ar h1 ad (if inR v (-9) 9 = 0 then M else up2 M 36 0 v) T) := by
  refine Cn.of (own := RX5) hX (by decide) rfl (Nat.le_of_ble_eq_true rfl) (fun j C => ?_)
  have C0 := C.to
  show j _ 0 0 0 [(0, _), (1, _)] []
  refine r_iload_n C0 0 1 dX5_drift_0 rfl rfl ?_
  refine r_bipush C0 1 (-9) dX5_drift_1 (by decide) ?_
  refine r_bipush C0 3 9 dX5_drift_3 (by decide) ?_
  refine s_call (As := [.int _, .int _, .int _]) C0 5 3 (k5_in hX _ _ _ _) (rm5_in (by decide) (by decide) (Nat.le_refl _) (Nat.le_refl _)) ml5_102 st5_in rfl (Nat.le_of_ble_eq_true rfl) dX5_drift_5 ?_
  rintro _ _ ⟨rfl, rfl⟩
  refine r_if_ne C0 8 15 dX5_drift_8 (by decide) (fun c_8 => ?_) (fun c_8 => ?_)
  · refine r_aload_n C0 15 0 dX5_drift_15 rfl rfl ?_
    refine m_getI C0 16 36 rfl fl5_144 rfl dX5_drift_16 ?_
    refine r_istore_n (lv' := [(0, _), (1, _), (2, _)]) C0 19 2 dX5_drift_19 rfl rfl (by decide) rfl ?_
    refine r_aload_n C0 20 0 dX5_drift_20 rfl rfl ?_
    refine r_iload_n C0 21 1 dX5_drift_21 rfl rfl ?_
    refine m_put C0 22 36 rfl fl5_144 rfl dX5_drift_22 ?_
    refine r_iload_n C0 25 2 dX5_drift_25 rfl rfl ?_
    refine r_iret C 26 dX5_drift_26 (Nat.le_refl _) (Nat.le_refl _) ?_
    exact ⟨by simp [inR_0.symm, *], by simp [inR_0.symm, *]⟩
  · refine r_sipush C0 11 (-1000) dX5_drift_11 (by decide) ?_
    refine r_iret C 14 dX5_drift_14 (Nat.le_refl _) (Nat.le_refl _) ?_
    exact ⟨by simp [inR_0.symm, *], by simp [inR_0.symm, *]⟩
end M5
