/-! the class: its small methods and its constructors -/
def hbN (b i : Int32) : Int32 := if (b >>> (i &&& 31)) &&& 1 = 1 then 1 else 0
def bcN (t : Int32) : Int32 :=
  let a := t - ((t.toUInt32 >>> ((1 : Int32).toUInt32 &&& Int32.toUInt32 31)).toInt32 &&& 1431655765)
  let b := (a &&& 858993459) + ((a.toUInt32 >>> ((2 : Int32).toUInt32 &&& Int32.toUInt32 31)).toInt32 &&& 858993459)
  let c := (b + (b.toUInt32 >>> ((4 : Int32).toUInt32 &&& Int32.toUInt32 31)).toInt32) &&& 252645135
  let d := c + (c.toUInt32 >>> ((8 : Int32).toUInt32 &&& Int32.toUInt32 31)).toInt32
  (d + (d.toUInt32 >>> ((16 : Int32).toUInt32 &&& Int32.toUInt32 31)).toInt32) &&& 63
theorem bcN_dull : ∀ {x : Nat}, x < 16 → bcN (nI x) = dullN (nI x)
  | 0, _ => by decide +kernel
  | 1, _ => by decide +kernel
  | 2, _ => by decide +kernel
  | 3, _ => by decide +kernel
  | 4, _ => by decide +kernel
  | 5, _ => by decide +kernel
  | 6, _ => by decide +kernel
  | 7, _ => by decide +kernel
  | 8, _ => by decide +kernel
  | 9, _ => by decide +kernel
  | 10, _ => by decide +kernel
  | 11, _ => by decide +kernel
  | 12, _ => by decide +kernel
  | 13, _ => by decide +kernel
  | 14, _ => by decide +kernel
  | 15, _ => by decide +kernel
  | _ + 16, h => absurd h (by omega)
theorem geN_grade {v : Int32} : ∀ {g : Nat}, g ≤ 5 → (∀ k, k < g → geN k ≤ v) → (g < 5 → ¬ geN g ≤ v) → nI g = gradeN v
  | 0, _, h1, h2 => by
    have a0 : ¬ (43 : Int32) ≤ v := h2 (by decide)
    simp only [gradeN, if_neg a0]; rfl
  | 1, _, h1, h2 => by
    have a0 : (43 : Int32) ≤ v := h1 0 (by decide)
    have a1 : ¬ (48 : Int32) ≤ v := h2 (by decide)
    simp only [gradeN, if_pos a0, if_neg a1]; rfl
  | 2, _, h1, h2 => by
    have a0 : (43 : Int32) ≤ v := h1 0 (by decide)
    have a1 : (48 : Int32) ≤ v := h1 1 (by decide)
    have a2 : ¬ (53 : Int32) ≤ v := h2 (by decide)
    simp only [gradeN, if_pos a0, if_pos a1, if_neg a2]; rfl
  | 3, _, h1, h2 => by
    have a0 : (43 : Int32) ≤ v := h1 0 (by decide)
    have a1 : (48 : Int32) ≤ v := h1 1 (by decide)
    have a2 : (53 : Int32) ≤ v := h1 2 (by decide)
    have a3 : ¬ (58 : Int32) ≤ v := h2 (by decide)
    simp only [gradeN, if_pos a0, if_pos a1, if_pos a2, if_neg a3]; rfl
  | 4, _, h1, h2 => by
    have a0 : (43 : Int32) ≤ v := h1 0 (by decide)
    have a1 : (48 : Int32) ≤ v := h1 1 (by decide)
    have a2 : (53 : Int32) ≤ v := h1 2 (by decide)
    have a3 : (58 : Int32) ≤ v := h1 3 (by decide)
    have a4 : ¬ (63 : Int32) ≤ v := h2 (by decide)
    simp only [gradeN, if_pos a0, if_pos a1, if_pos a2, if_pos a3, if_neg a4]; rfl
  | 5, _, h1, h2 => by
    have a0 : (43 : Int32) ≤ v := h1 0 (by decide)
    have a1 : (48 : Int32) ≤ v := h1 1 (by decide)
    have a2 : (53 : Int32) ≤ v := h1 2 (by decide)
    have a3 : (58 : Int32) ≤ v := h1 3 (by decide)
    have a4 : (63 : Int32) ≤ v := h1 4 (by decide)
    simp only [gradeN, if_pos a0, if_pos a1, if_pos a2, if_pos a3, if_pos a4]; rfl
  | n + 6, h, _, _ => absurd h (by omega)
/-- Pack.lay(egg): p the pack, x the egg -/
def layS (S : CS) (p x : Nat) : CS :=
  uI (uI (uI (uI (uI (uI S 23 p (if S.2.2.2.1 21 p = 0 then S.2.2.2.1 7 x else if S.2.2.2.1 7 x < S.2.2.2.1 23 p then S.2.2.2.1 7 x else S.2.2.2.1 23 p)) 24 p (if S.2.2.2.1 24 p < S.2.2.2.1 7 x then S.2.2.2.1 7 x else S.2.2.2.1 24 p)) 21 p (S.2.2.2.1 21 p + 1)) 22 p (S.2.2.2.1 22 p ||| (1 <<< (S.2.2.2.1 1 x &&& 31)))) 25 p (S.2.2.2.1 25 p + S.2.2.2.1 2 x)) 26 p (S.2.2.2.1 26 p + S.2.2.2.1 6 x)
def ifoN (S : CS) (p : Nat) (g : Int32) : Int32 := if S.2.2.2.1 20 p = g then if S.2.2.2.1 27 p = -9 then if S.2.2.2.1 28 p = 0 then 1 else 0 else 0 else 0
def hoiS (S : CS) (p : Nat) (z : Int32) : CS := if z = 0 then S else if S.2.2.2.1 27 p = -9 then uI S 28 p 1 else S
def eggS (S : CS) (p : Nat) (n b w t r d : Int32) : CS := uI (uI (uI (uI (uI (uI S 0 p n) 1 p b) 2 p w) 3 p t) 4 p r) 5 p d
def ordS (S : CS) (p : Nat) (g n w : Int32) : CS := uI (uI (uI S 10 p g) 11 p n) 12 p w
def pkrS (S : CS) (p q : Nat) (pl g : Int32) : CS := uI (uI (uR (uI (nO (uI S 32 p 1) q 2) 27 q (-9)) 0 p (some q)) 30 p pl) 31 p g

section C20
variable {D : va_G} {ar : Nat → ClassId} {tg te mi : Nat} {S : CS}
set_option maxRecDepth 100000 in
theorem k_X4_isWithin {X : XT} (hX : Xok X) (ws : va_W) (v a b : Int32)  : Cn D ar X yX4_isWithin cX4_isWithin 3 (some .boolean) 0 0 0 0 [.int v, .int a, .int b] ws (fun r w => r = some (.int (inR v a b)) ∧ w = ws) := by
  refine Cn.of (own := RX4) hX (by decide) rfl (Nat.le_of_ble_eq_true rfl) (fun j C => ?_)
  have C0 := C.to
  show j _ 0 0 0 [(0, _), (1, _), (2, _)] []
  refine r_iload_n C0 0 0 dX4_isWithin_0 rfl rfl ?_
  refine r_iload_n C0 1 1 dX4_isWithin_1 rfl rfl ?_
  refine r_icmp_lt C0 2 14 dX4_isWithin_2 (by decide) (fun c_2 => ?_) (fun c_2 => ?_)
  · refine r_iconst C0 14 0 dX4_isWithin_14 (by decide) ?_
    refine r_zret C 15 rfl dX4_isWithin_15 (Nat.le_refl _) (Nat.le_refl _) ?_
    first | exact ⟨by rw [inR_a c_2], rfl⟩ | exact ⟨by rw [inR_b c_7], rfl⟩ | exact ⟨by rw [inR_c c_2 c_7], rfl⟩
  · refine r_iload_n C0 5 0 dX4_isWithin_5 rfl rfl ?_
    refine r_iload_n C0 6 2 dX4_isWithin_6 rfl rfl ?_
    refine r_icmp_gt C0 7 14 dX4_isWithin_7 (by decide) (fun c_7 => ?_) (fun c_7 => ?_)
    · refine r_iconst C0 14 0 dX4_isWithin_14 (by decide) ?_
      refine r_zret C 15 rfl dX4_isWithin_15 (Nat.le_refl _) (Nat.le_refl _) ?_
      first | exact ⟨by rw [inR_a c_2], rfl⟩ | exact ⟨by rw [inR_b c_7], rfl⟩ | exact ⟨by rw [inR_c c_2 c_7], rfl⟩
    · refine r_iconst C0 10 1 dX4_isWithin_10 (by decide) ?_
      refine r_goto C0 11 15 dX4_isWithin_11 (by decide) ?_
      refine r_zret C 15 rfl dX4_isWithin_15 (Nat.le_refl _) (Nat.le_refl _) ?_
      first | exact ⟨by rw [inR_a c_2], rfl⟩ | exact ⟨by rw [inR_b c_7], rfl⟩ | exact ⟨by rw [inR_c c_2 c_7], rfl⟩
set_option maxRecDepth 100000 in
theorem k_X4_isBarn {X : XT} (hX : Xok X) (ws : va_W) (v : Int32)  : Cn D ar X yX4_isBarn cX4_isBarn 1 (some .boolean) 1 22 0 0 [.int v] ws (fun r w => r = some (.int (inR v 0 3)) ∧ w = ws) := by
  refine Cn.of (own := RX4) hX (by decide) rfl (Nat.le_of_ble_eq_true rfl) (fun j C => ?_)
  have C0 := C.to
  show j _ 0 0 0 [(0, _)] []
  refine r_iload_n C0 0 0 dX4_isBarn_0 rfl rfl ?_
  refine r_iconst C0 1 0 dX4_isBarn_1 (by decide) ?_
  refine r_iconst C0 2 3 dX4_isBarn_2 (by decide) ?_
  refine s_call (As := [.int _, .int _, .int _]) C0 3 3 (k_X4_isWithin hX _ _ _ _) (rm_X4_isWithin (by decide) (by decide) (Nat.le_refl _) (Nat.le_refl _)) mlX4_49 st_X4_isWithin rfl (Nat.le_of_ble_eq_true rfl) dX4_isBarn_3 ?_
  rintro _ _ ⟨rfl, rfl⟩
  refine r_zret C 6 inR_nar dX4_isBarn_6 (Nat.le_refl _) (Nat.le_refl _) ?_
  exact ⟨rfl, rfl⟩
set_option maxRecDepth 100000 in
theorem k_X4_isGrade {X : XT} (hX : Xok X) (ws : va_W) (v : Int32)  : Cn D ar X yX4_isGrade cX4_isGrade 1 (some .boolean) 1 22 0 0 [.int v] ws (fun r w => r = some (.int (inR v 0 5)) ∧ w = ws) := by
  refine Cn.of (own := RX4) hX (by decide) rfl (Nat.le_of_ble_eq_true rfl) (fun j C => ?_)
  have C0 := C.to
  show j _ 0 0 0 [(0, _)] []
  refine r_iload_n C0 0 0 dX4_isGrade_0 rfl rfl ?_
  refine r_iconst C0 1 0 dX4_isGrade_1 (by decide) ?_
  refine r_iconst C0 2 5 dX4_isGrade_2 (by decide) ?_
  refine s_call (As := [.int _, .int _, .int _]) C0 3 3 (k_X4_isWithin hX _ _ _ _) (rm_X4_isWithin (by decide) (by decide) (Nat.le_refl _) (Nat.le_refl _)) mlX4_49 st_X4_isWithin rfl (Nat.le_of_ble_eq_true rfl) dX4_isGrade_3 ?_
  rintro _ _ ⟨rfl, rfl⟩
  refine r_zret C 6 inR_nar dX4_isGrade_6 (Nat.le_refl _) (Nat.le_refl _) ?_
  exact ⟨rfl, rfl⟩
set_option maxRecDepth 100000 in
theorem k_X4_isPacker {X : XT} (hX : Xok X) (ws : va_W) (v : Int32)  : Cn D ar X yX4_isPacker cX4_isPacker 1 (some .boolean) 1 22 0 0 [.int v] ws (fun r w => r = some (.int (inR v 0 3)) ∧ w = ws) := by
  refine Cn.of (own := RX4) hX (by decide) rfl (Nat.le_of_ble_eq_true rfl) (fun j C => ?_)
  have C0 := C.to
  show j _ 0 0 0 [(0, _)] []
  refine r_iload_n C0 0 0 dX4_isPacker_0 rfl rfl ?_
  refine r_iconst C0 1 0 dX4_isPacker_1 (by decide) ?_
  refine r_iconst C0 2 3 dX4_isPacker_2 (by decide) ?_
  refine s_call (As := [.int _, .int _, .int _]) C0 3 3 (k_X4_isWithin hX _ _ _ _) (rm_X4_isWithin (by decide) (by decide) (Nat.le_refl _) (Nat.le_refl _)) mlX4_49 st_X4_isWithin rfl (Nat.le_of_ble_eq_true rfl) dX4_isPacker_3 ?_
  rintro _ _ ⟨rfl, rfl⟩
  refine r_zret C 6 inR_nar dX4_isPacker_6 (Nat.le_refl _) (Nat.le_refl _) ?_
  exact ⟨rfl, rfl⟩
set_option maxRecDepth 100000 in
theorem k_X4_hasBit {X : XT} (hX : Xok X) (ws : va_W) (b i : Int32)  : Cn D ar X yX4_hasBit cX4_hasBit 2 (some .boolean) 0 0 0 0 [.int b, .int i] ws (fun r w => r = some (.int (hbN b i)) ∧ w = ws) := by
  refine Cn.of (own := RX4) hX (by decide) rfl (Nat.le_of_ble_eq_true rfl) (fun j C => ?_)
  have C0 := C.to
  show j _ 0 0 0 [(0, _), (1, _)] []
  refine r_iload_n C0 0 0 dX4_hasBit_0 rfl rfl ?_
  refine r_iload_n C0 1 1 dX4_hasBit_1 rfl rfl ?_
  refine r_ishr C0 2 dX4_hasBit_2 ?_
  refine r_iconst C0 3 1 dX4_hasBit_3 (by decide) ?_
  refine r_iand C0 4 dX4_hasBit_4 ?_
  refine r_iconst C0 5 1 dX4_hasBit_5 (by decide) ?_
  refine r_icmp_ne C0 6 13 dX4_hasBit_6 (by decide) (fun c_6 => ?_) (fun c_6 => ?_)
  · refine r_iconst C0 13 0 dX4_hasBit_13 (by decide) ?_
    refine r_zret C 14 rfl dX4_hasBit_14 (Nat.le_refl _) (Nat.le_refl _) ?_
    exact ⟨by unfold hbN; rw [if_neg c_6], rfl⟩
  · refine r_iconst C0 9 1 dX4_hasBit_9 (by decide) ?_
    refine r_goto C0 10 14 dX4_hasBit_10 (by decide) ?_
    refine r_zret C 14 rfl dX4_hasBit_14 (Nat.le_refl _) (Nat.le_refl _) ?_
    exact ⟨by unfold hbN; rw [if_pos c_6], rfl⟩
set_option maxRecDepth 100000 in
theorem k_X4_asNumber {X : XT} (hX : Xok X) (ws : va_W) (z : Int32)  : Cn D ar X yX4_asNumber cX4_asNumber 1 (some .int) 0 0 0 0 [.int z] ws (fun r w => r = some (.int (if z = 0 then 0 else 1)) ∧ w = ws) := by
  refine Cn.of (own := RX4) hX (by decide) rfl (Nat.le_of_ble_eq_true rfl) (fun j C => ?_)
  have C0 := C.to
  show j _ 0 0 0 [(0, _)] []
  refine r_iload_n C0 0 0 dX4_asNumber_0 rfl rfl ?_
  refine r_if_eq C0 1 8 dX4_asNumber_1 (by decide) (fun c_1 => ?_) (fun c_1 => ?_)
  · refine r_iconst C0 8 0 dX4_asNumber_8 (by decide) ?_
    refine r_iret C 9 dX4_asNumber_9 (Nat.le_refl _) (Nat.le_refl _) ?_
    exact ⟨by rw [if_pos c_1], rfl⟩
  · refine r_iconst C0 4 1 dX4_asNumber_4 (by decide) ?_
    refine r_goto C0 5 9 dX4_asNumber_5 (by decide) ?_
    refine r_iret C 9 dX4_asNumber_9 (Nat.le_refl _) (Nat.le_refl _) ?_
    exact ⟨by rw [if_neg c_1], rfl⟩
set_option maxRecDepth 100000 in
theorem k_X4_gradeOf (ws : va_W) (v : Int32)  : Cn D ar (XC tg te mi) yX4_gradeOf cX4_gradeOf 2 (some .int) 0 0 0 0 [.int v] ws (fun r w => r = some (.int (gradeN v)) ∧ w = ws) := by
  refine Cn.of (own := RX4) XC_ok (by decide) rfl (Nat.le_of_ble_eq_true rfl) (fun j C => ?_)
  have C0 := C.to
  show j _ 0 0 0 [(0, _)] []
  suffices key : ∀ g, g ≤ 5 → (∀ k, k < g → geN k ≤ v) → j ws 0 0 2 [(0, .int v), (1, .int (nI g))] [] by
    refine r_iconst C0 0 0 dX4_gradeOf_0 (by decide) ?_
    refine r_istore_n (lv' := [(0, _), (1, _)]) C0 1 1 dX4_gradeOf_1 rfl rfl (by decide) rfl ?_
    exact key 0 (by decide) (fun k hk => absurd hk (by omega))
  refine loopUp (P := 5) (f := fun g => (∀ k, k < g → geN k ≤ v) → j ws 0 0 2 [(0, .int v), (1, .int (nI g))] []) (fun g hg ih hk => ?_)
  refine r_iload_n C0 2 1 dX4_gradeOf_2 rfl rfl ?_
  refine ca_ge C0 3 flX4_303 dX4_gradeOf_3 ?_
  refine ca_gel C0 6 dX4_gradeOf_6 ?_
  refine r_icmp_ge C0 7 25 dX4_gradeOf_7 (by decide) (fun c_7 => ?_) (fun c_7 => ?_)
  · have hge : 5 ≤ g := (nI_leI (a := 5) (by omega) (by omega)).mp c_7
    refine r_iload_n C0 25 1 dX4_gradeOf_25 rfl rfl ?_
    refine r_iret C 26 dX4_gradeOf_26 (Nat.le_refl _) (Nat.le_refl _) ?_
    exact ⟨by rw [geN_grade hg hk (fun q => by omega)], rfl⟩
  · have hlt : g < 5 := Nat.lt_of_not_le (fun q => c_7 (nI_le (a := 5) q (by omega)))
    refine r_iload_n C0 10 0 dX4_gradeOf_10 rfl rfl ?_
    refine ca_ge C0 11 flX4_303 dX4_gradeOf_11 ?_
    refine r_iload_n C0 14 1 dX4_gradeOf_14 rfl rfl ?_
    refine ca_gei C0 15 g rfl hlt dX4_gradeOf_15 ?_
    refine r_icmp_lt C0 16 25 dX4_gradeOf_16 (by decide) (fun c_16 => ?_) (fun c_16 => ?_)
    · refine r_iload_n C0 25 1 dX4_gradeOf_25 rfl rfl ?_
      refine r_iret C 26 dX4_gradeOf_26 (Nat.le_refl _) (Nat.le_refl _) ?_
      exact ⟨by rw [geN_grade hg hk (fun q => Int32.not_le.mpr c_16)], rfl⟩
    · refine r_iinc (lv' := [(0, _), (1, _)]) C0 19 _ dX4_gradeOf_19 rfl rfl rfl (by decide) rfl ?_
      refine r_goto C0 22 2 dX4_gradeOf_22 (by decide) ?_
      have h9 := ih hlt (fun k hk2 => by
        by_cases q : k = g
        · rw [q]; exact Int32.not_lt.mp c_16
        · exact hk k (by omega))
      rw [← nI_1 g] at h9
      exact h9
set_option maxRecDepth 100000 in
theorem k_J6_bitCount_0f7a4 {X : XT} (hX : Xok X) (ws : va_W) (t : Int32)  : Cn D ar X yJ6_bitCount_0f7a4 cJ6_bitCount_0f7a4 1 (some .int) 0 0 0 0 [.int t] ws (fun r w => r = some (.int (bcN t)) ∧ w = ws) := by
  refine Cn.of (own := RJ6) hX (by decide) rfl (Nat.le_of_ble_eq_true rfl) (fun j C => ?_)
  have C0 := C.to
  show j _ 0 0 0 [(0, _)] []
  refine r_iload_n C0 0 0 dJ6_bitCount_0f7a4_0 rfl rfl ?_
  refine r_iload_n C0 1 0 dJ6_bitCount_0f7a4_1 rfl rfl ?_
  refine r_iconst C0 2 1 dJ6_bitCount_0f7a4_2 (by decide) ?_
  refine r_iushr C0 3 dJ6_bitCount_0f7a4_3 rfl ?_
  refine r_ldcw C0 4 ldJ6_265 dJ6_bitCount_0f7a4_4 ?_
  refine r_iand C0 7 dJ6_bitCount_0f7a4_7 ?_
  refine r_isub C0 8 dJ6_bitCount_0f7a4_8 ?_
  refine r_istore_n (lv' := [(0, _)]) C0 9 0 dJ6_bitCount_0f7a4_9 rfl rfl (by decide) rfl ?_
  refine r_iload_n C0 10 0 dJ6_bitCount_0f7a4_10 rfl rfl ?_
  refine r_ldcw C0 11 ldJ6_266 dJ6_bitCount_0f7a4_11 ?_
  refine r_iand C0 14 dJ6_bitCount_0f7a4_14 ?_
  refine r_iload_n C0 15 0 dJ6_bitCount_0f7a4_15 rfl rfl ?_
  refine r_iconst C0 16 2 dJ6_bitCount_0f7a4_16 (by decide) ?_
  refine r_iushr C0 17 dJ6_bitCount_0f7a4_17 rfl ?_
  refine r_ldcw C0 18 ldJ6_266 dJ6_bitCount_0f7a4_18 ?_
  refine r_iand C0 21 dJ6_bitCount_0f7a4_21 ?_
  refine r_iadd C0 22 dJ6_bitCount_0f7a4_22 ?_
  refine r_istore_n (lv' := [(0, _)]) C0 23 0 dJ6_bitCount_0f7a4_23 rfl rfl (by decide) rfl ?_
  refine r_iload_n C0 24 0 dJ6_bitCount_0f7a4_24 rfl rfl ?_
  refine r_iload_n C0 25 0 dJ6_bitCount_0f7a4_25 rfl rfl ?_
  refine r_iconst C0 26 4 dJ6_bitCount_0f7a4_26 (by decide) ?_
  refine r_iushr C0 27 dJ6_bitCount_0f7a4_27 rfl ?_
  refine r_iadd C0 28 dJ6_bitCount_0f7a4_28 ?_
  refine r_ldcw C0 29 ldJ6_267 dJ6_bitCount_0f7a4_29 ?_
  refine r_iand C0 32 dJ6_bitCount_0f7a4_32 ?_
  refine r_istore_n (lv' := [(0, _)]) C0 33 0 dJ6_bitCount_0f7a4_33 rfl rfl (by decide) rfl ?_
  refine r_iload_n C0 34 0 dJ6_bitCount_0f7a4_34 rfl rfl ?_
  refine r_iload_n C0 35 0 dJ6_bitCount_0f7a4_35 rfl rfl ?_
  refine r_bipush C0 36 8 dJ6_bitCount_0f7a4_36 (by decide) ?_
  refine r_iushr C0 38 dJ6_bitCount_0f7a4_38 rfl ?_
  refine r_iadd C0 39 dJ6_bitCount_0f7a4_39 ?_
  refine r_istore_n (lv' := [(0, _)]) C0 40 0 dJ6_bitCount_0f7a4_40 rfl rfl (by decide) rfl ?_
  refine r_iload_n C0 41 0 dJ6_bitCount_0f7a4_41 rfl rfl ?_
  refine r_iload_n C0 42 0 dJ6_bitCount_0f7a4_42 rfl rfl ?_
  refine r_bipush C0 43 16 dJ6_bitCount_0f7a4_43 (by decide) ?_
  refine r_iushr C0 45 dJ6_bitCount_0f7a4_45 rfl ?_
  refine r_iadd C0 46 dJ6_bitCount_0f7a4_46 ?_
  refine r_istore_n (lv' := [(0, _)]) C0 47 0 dJ6_bitCount_0f7a4_47 rfl rfl (by decide) rfl ?_
  refine r_iload_n C0 48 0 dJ6_bitCount_0f7a4_48 rfl rfl ?_
  refine r_bipush C0 49 63 dJ6_bitCount_0f7a4_49 (by decide) ?_
  refine r_iand C0 51 dJ6_bitCount_0f7a4_51 ?_
  refine r_iret C 52 dJ6_bitCount_0f7a4_52 (Nat.le_refl _) (Nat.le_refl _) ?_
  exact ⟨rfl, rfl⟩
set_option maxRecDepth 100000 in
theorem k_X4_isPack {X : XT} (hX : Xok X) {h0 lp : Nat} (hh : Is S h0 4) (hr : S.2.2.2.2.1 5 h0 = some lp) (hp : Is S lp 6) (v : Int32)  : Cn D ar X yX4_isPack cX4_isPack 2 (some .boolean) 1 22 0 0 [.ref h0, .int v] (cW ar S) (fun r w => r = some (.int (inR v 0 (S.2.2.2.1 51 lp - 1))) ∧ w = cW ar S) := by
  refine Cn.of (own := RX4) hX (by decide) rfl (Nat.le_of_ble_eq_true rfl) (fun j C => ?_)
  have C0 := C.to
  show j _ 0 0 0 [(0, _), (1, _)] []
  refine r_iload_n C0 0 1 dX4_isPack_0 rfl rfl ?_
  refine r_iconst C0 1 0 dX4_isPack_1 (by decide) ?_
  refine r_aload_n C0 2 0 dX4_isPack_2 rfl rfl ?_
  refine cgR_5 C0 3 hr flX4_31 hh dX4_isPack_3 ?_
  refine c_call (As := []) C0 6 0 (k_Jx4a65c_size_8abf5 hX hp) (rm_Jx4a65c_size_8abf5 (by decide) (by decide) (Nat.le_refl _) (Nat.le_refl _)) mlX4_53 im_Jx4a65c_size_8abf5 se_Jx4a65c_size_8abf5 (by decide) rfl hp rfl (Nat.le_of_ble_eq_true rfl) dX4_isPack_6 ?_
  rintro _ _ ⟨rfl, rfl⟩
  refine r_iconst C0 9 1 dX4_isPack_9 (by decide) ?_
  refine r_isub C0 10 dX4_isPack_10 ?_
  refine s_call (As := [.int _, .int _, .int _]) C0 11 3 (k_X4_isWithin hX _ _ _ _) (rm_X4_isWithin (by decide) (by decide) (Nat.le_refl _) (Nat.le_refl _)) mlX4_49 st_X4_isWithin rfl (Nat.le_of_ble_eq_true rfl) dX4_isPack_11 ?_
  rintro _ _ ⟨rfl, rfl⟩
  refine r_zret C 14 inR_nar dX4_isPack_14 (Nat.le_refl _) (Nat.le_refl _) ?_
  exact ⟨rfl, rfl⟩
set_option maxRecDepth 100000 in
theorem k_X2_lay {X : XT} (hX : Xok X) {p x : Nat} (hp : Is S p 2) (hx : Is S x 0)  : Cn D ar X yX2_lay cX2_lay 2 none 1 14 0 0 [.ref p, .ref x] (cW ar S) (fun r w => r = none ∧ w = cW ar (layS S p x)) := by
  refine Cn.of (own := RX2) hX (by decide) rfl (Nat.le_of_ble_eq_true rfl) (fun j C => ?_)
  have C0 := C.to
  show j _ 0 0 0 [(0, _), (1, _)] []
  refine r_aload_n C0 0 0 dX2_lay_0 rfl rfl ?_
  refine r_aload_n C0 1 0 dX2_lay_1 rfl rfl ?_
  refine cgI_21 C0 2 flX2_15 hp dX2_lay_2 ?_
  refine r_if_ne C0 5 15 dX2_lay_5 (by decide) (fun c_5 => ?_) (fun c_5 => ?_)
  · refine r_aload_n C0 15 0 dX2_lay_15 rfl rfl ?_
    refine cgI_23 C0 16 flX2_23 hp dX2_lay_16 ?_
    refine r_aload_n C0 19 1 dX2_lay_19 rfl rfl ?_
    refine cgI_7 C0 20 flX2_18 hx dX2_lay_20 ?_
    refine r_mmin C0 23 mlX2_26 (Nat.le_of_ble_eq_true rfl) (Nat.le_of_ble_eq_true rfl) (Nat.le_of_ble_eq_true rfl) (Nat.le_of_ble_eq_true rfl) dX2_lay_23 ?_
    refine cpI_23 C0 26 flX2_23 hp dX2_lay_26 ?_
    refine r_aload_n C0 29 0 dX2_lay_29 rfl rfl ?_
    refine r_aload_n C0 30 0 dX2_lay_30 rfl rfl ?_
    refine cgI_24 C0 31 flX2_32 hp dX2_lay_31 ?_
    refine r_aload_n C0 34 1 dX2_lay_34 rfl rfl ?_
    refine cgI_7 C0 35 flX2_18 hx dX2_lay_35 ?_
    refine r_mmax C0 38 mlX2_35 (Nat.le_of_ble_eq_true rfl) (Nat.le_of_ble_eq_true rfl) (Nat.le_of_ble_eq_true rfl) (Nat.le_of_ble_eq_true rfl) dX2_lay_38 ?_
    refine cpI_24 C0 41 flX2_32 hp dX2_lay_41 ?_
    refine r_aload_n C0 44 0 dX2_lay_44 rfl rfl ?_
    refine r_dup C0 45 dX2_lay_45 rfl ?_
    refine cgI_21 C0 46 flX2_15 hp dX2_lay_46 ?_
    refine r_iconst C0 49 1 dX2_lay_49 (by decide) ?_
    refine r_iadd C0 50 dX2_lay_50 ?_
    refine cpI_21 C0 51 flX2_15 hp dX2_lay_51 ?_
    refine r_aload_n C0 54 0 dX2_lay_54 rfl rfl ?_
    refine r_dup C0 55 dX2_lay_55 rfl ?_
    refine cgI_22 C0 56 flX2_38 hp dX2_lay_56 ?_
    refine r_iconst C0 59 1 dX2_lay_59 (by decide) ?_
    refine r_aload_n C0 60 1 dX2_lay_60 rfl rfl ?_
    refine cgI_1 C0 61 flX2_41 hx dX2_lay_61 ?_
    refine r_ishl C0 64 dX2_lay_64 ?_
    refine r_ior C0 65 dX2_lay_65 ?_
    refine cpI_22 C0 66 flX2_38 hp dX2_lay_66 ?_
    refine r_aload_n C0 69 0 dX2_lay_69 rfl rfl ?_
    refine r_dup C0 70 dX2_lay_70 rfl ?_
    refine cgI_25 C0 71 flX2_44 hp dX2_lay_71 ?_
    refine r_aload_n C0 74 1 dX2_lay_74 rfl rfl ?_
    refine cgI_2 C0 75 flX2_47 hx dX2_lay_75 ?_
    refine r_iadd C0 78 dX2_lay_78 ?_
    refine cpI_25 C0 79 flX2_44 hp dX2_lay_79 ?_
    refine r_aload_n C0 82 0 dX2_lay_82 rfl rfl ?_
    refine r_dup C0 83 dX2_lay_83 rfl ?_
    refine cgI_26 C0 84 flX2_50 hp dX2_lay_84 ?_
    refine r_aload_n C0 87 1 dX2_lay_87 rfl rfl ?_
    refine cgI_6 C0 88 flX2_53 hx dX2_lay_88 ?_
    refine r_iadd C0 91 dX2_lay_91 ?_
    refine cpI_26 C0 92 flX2_50 hp dX2_lay_92 ?_
    refine r_vret C 95 dX2_lay_95 (Nat.le_refl _) (Nat.le_refl _) ?_
    refine ⟨rfl, congrArg (cW ar) ?_⟩
    unfold layS
    rw [if_neg c_5]
    rfl
  · refine r_aload_n C0 8 1 dX2_lay_8 rfl rfl ?_
    refine cgI_7 C0 9 flX2_18 hx dX2_lay_9 ?_
    refine r_goto C0 12 26 dX2_lay_12 (by decide) ?_
    refine cpI_23 C0 26 flX2_23 hp dX2_lay_26 ?_
    refine r_aload_n C0 29 0 dX2_lay_29 rfl rfl ?_
    refine r_aload_n C0 30 0 dX2_lay_30 rfl rfl ?_
    refine cgI_24 C0 31 flX2_32 hp dX2_lay_31 ?_
    refine r_aload_n C0 34 1 dX2_lay_34 rfl rfl ?_
    refine cgI_7 C0 35 flX2_18 hx dX2_lay_35 ?_
    refine r_mmax C0 38 mlX2_35 (Nat.le_of_ble_eq_true rfl) (Nat.le_of_ble_eq_true rfl) (Nat.le_of_ble_eq_true rfl) (Nat.le_of_ble_eq_true rfl) dX2_lay_38 ?_
    refine cpI_24 C0 41 flX2_32 hp dX2_lay_41 ?_
    refine r_aload_n C0 44 0 dX2_lay_44 rfl rfl ?_
    refine r_dup C0 45 dX2_lay_45 rfl ?_
    refine cgI_21 C0 46 flX2_15 hp dX2_lay_46 ?_
    refine r_iconst C0 49 1 dX2_lay_49 (by decide) ?_
    refine r_iadd C0 50 dX2_lay_50 ?_
    refine cpI_21 C0 51 flX2_15 hp dX2_lay_51 ?_
    refine r_aload_n C0 54 0 dX2_lay_54 rfl rfl ?_
    refine r_dup C0 55 dX2_lay_55 rfl ?_
    refine cgI_22 C0 56 flX2_38 hp dX2_lay_56 ?_
    refine r_iconst C0 59 1 dX2_lay_59 (by decide) ?_
    refine r_aload_n C0 60 1 dX2_lay_60 rfl rfl ?_
    refine cgI_1 C0 61 flX2_41 hx dX2_lay_61 ?_
    refine r_ishl C0 64 dX2_lay_64 ?_
    refine r_ior C0 65 dX2_lay_65 ?_
    refine cpI_22 C0 66 flX2_38 hp dX2_lay_66 ?_
    refine r_aload_n C0 69 0 dX2_lay_69 rfl rfl ?_
    refine r_dup C0 70 dX2_lay_70 rfl ?_
    refine cgI_25 C0 71 flX2_44 hp dX2_lay_71 ?_
    refine r_aload_n C0 74 1 dX2_lay_74 rfl rfl ?_
    refine cgI_2 C0 75 flX2_47 hx dX2_lay_75 ?_
    refine r_iadd C0 78 dX2_lay_78 ?_
    refine cpI_25 C0 79 flX2_44 hp dX2_lay_79 ?_
    refine r_aload_n C0 82 0 dX2_lay_82 rfl rfl ?_
    refine r_dup C0 83 dX2_lay_83 rfl ?_
    refine cgI_26 C0 84 flX2_50 hp dX2_lay_84 ?_
    refine r_aload_n C0 87 1 dX2_lay_87 rfl rfl ?_
    refine cgI_6 C0 88 flX2_53 hx dX2_lay_88 ?_
    refine r_iadd C0 91 dX2_lay_91 ?_
    refine cpI_26 C0 92 flX2_50 hp dX2_lay_92 ?_
    refine r_vret C 95 dX2_lay_95 (Nat.le_refl _) (Nat.le_refl _) ?_
    refine ⟨rfl, congrArg (cW ar) ?_⟩
    unfold layS
    rw [if_pos c_5]
    rfl
set_option maxRecDepth 100000 in
theorem k_X2_isFreeOf {X : XT} (hX : Xok X) {p : Nat} (hp : Is S p 2) (g : Int32)  : Cn D ar X yX2_isFreeOf cX2_isFreeOf 2 (some .boolean) 0 0 0 0 [.ref p, .int g] (cW ar S) (fun r w => r = some (.int (ifoN S p g)) ∧ w = cW ar S) := by
  refine Cn.of (own := RX2) hX (by decide) rfl (Nat.le_of_ble_eq_true rfl) (fun j C => ?_)
  have C0 := C.to
  show j _ 0 0 0 [(0, _), (1, _)] []
  refine r_aload_n C0 0 0 dX2_isFreeOf_0 rfl rfl ?_
  refine cgI_20 C0 1 flX2_56 hp dX2_isFreeOf_1 ?_
  refine r_iload_n C0 4 1 dX2_isFreeOf_4 rfl rfl ?_
  refine r_icmp_ne C0 5 28 dX2_isFreeOf_5 (by decide) (fun c_5 => ?_) (fun c_5 => ?_)
  · refine r_iconst C0 28 0 dX2_isFreeOf_28 (by decide) ?_
    refine r_zret C 29 rfl dX2_isFreeOf_29 (Nat.le_refl _) (Nat.le_refl _) ?_
    exact ⟨by simp only [ifoN, eq_false c_5]; rfl, rfl⟩
  · refine r_aload_n C0 8 0 dX2_isFreeOf_8 rfl rfl ?_
    refine cgI_27 C0 9 flX2_9 hp dX2_isFreeOf_9 ?_
    refine r_bipush C0 12 (-9) dX2_isFreeOf_12 (by decide) ?_
    refine r_icmp_ne C0 14 28 dX2_isFreeOf_14 (by decide) (fun c_14 => ?_) (fun c_14 => ?_)
    · refine r_iconst C0 28 0 dX2_isFreeOf_28 (by decide) ?_
      refine r_zret C 29 rfl dX2_isFreeOf_29 (Nat.le_refl _) (Nat.le_refl _) ?_
      exact ⟨by simp only [ifoN, eq_true c_5, eq_false c_14]; rfl, rfl⟩
    · refine r_aload_n C0 17 0 dX2_isFreeOf_17 rfl rfl ?_
      refine cgI_28 C0 18 flX2_59 hp dX2_isFreeOf_18 ?_
      refine r_if_ne C0 21 28 dX2_isFreeOf_21 (by decide) (fun c_21 => ?_) (fun c_21 => ?_)
      · refine r_iconst C0 28 0 dX2_isFreeOf_28 (by decide) ?_
        refine r_zret C 29 rfl dX2_isFreeOf_29 (Nat.le_refl _) (Nat.le_refl _) ?_
        exact ⟨by simp only [ifoN, eq_true c_5, eq_true c_14, eq_false c_21]; rfl, rfl⟩
      · refine r_iconst C0 24 1 dX2_isFreeOf_24 (by decide) ?_
        refine r_goto C0 25 29 dX2_isFreeOf_25 (by decide) ?_
        refine r_zret C 29 rfl dX2_isFreeOf_29 (Nat.le_refl _) (Nat.le_refl _) ?_
        exact ⟨by simp only [ifoN, eq_true c_5, eq_true c_14, eq_true c_21]; rfl, rfl⟩
set_option maxRecDepth 100000 in
theorem k_X2_holdIf {X : XT} (hX : Xok X) {p : Nat} (hp : Is S p 2) (z : Int32)  : Cn D ar X yX2_holdIf cX2_holdIf 2 none 0 0 0 0 [.ref p, .int z] (cW ar S) (fun r w => r = none ∧ w = cW ar (hoiS S p z)) := by
  refine Cn.of (own := RX2) hX (by decide) rfl (Nat.le_of_ble_eq_true rfl) (fun j C => ?_)
  have C0 := C.to
  show j _ 0 0 0 [(0, _), (1, _)] []
  refine r_iload_n C0 0 1 dX2_holdIf_0 rfl rfl ?_
  refine r_if_eq C0 1 18 dX2_holdIf_1 (by decide) (fun c_1 => ?_) (fun c_1 => ?_)
  · refine r_vret C 18 dX2_holdIf_18 (Nat.le_refl _) (Nat.le_refl _) ?_
    exact ⟨rfl, by simp only [hoiS, eq_true c_1]; rfl⟩
  · refine r_aload_n C0 4 0 dX2_holdIf_4 rfl rfl ?_
    refine cgI_27 C0 5 flX2_9 hp dX2_holdIf_5 ?_
    refine r_bipush C0 8 (-9) dX2_holdIf_8 (by decide) ?_
    refine r_icmp_ne C0 10 18 dX2_holdIf_10 (by decide) (fun c_10 => ?_) (fun c_10 => ?_)
    · refine r_vret C 18 dX2_holdIf_18 (Nat.le_refl _) (Nat.le_refl _) ?_
      exact ⟨rfl, by simp only [hoiS, eq_false c_1, eq_false c_10]; rfl⟩
    · refine r_aload_n C0 13 0 dX2_holdIf_13 rfl rfl ?_
      refine r_iconst C0 14 1 dX2_holdIf_14 (by decide) ?_
      refine cpI_28 C0 15 (Or.inr rfl) flX2_59 hp dX2_holdIf_15 ?_
      refine r_vret C 18 dX2_holdIf_18 (Nat.le_refl _) (Nat.le_refl _) ?_
      exact ⟨rfl, by simp only [hoiS, eq_false c_1, eq_true c_10]; rfl⟩
set_option maxRecDepth 100000 in
theorem k_X0_init {X : XT} (hX : Xok X) {p : Nat} (hp : Is S p 0) (n b w9 t r9 d : Int32)  : Cn D ar X yX0_init cX0_init 7 none 1 12 0 0 [.ref p, .int n, .int b, .int w9, .int t, .int r9, .int d] (cW ar S) (fun r w => r = none ∧ w = cW ar (eggS S p n b w9 t r9 d)) := by
  refine Cn.ofI (own := RX0) hX (by decide) rfl rfl (Nat.le_of_ble_eq_true rfl) (fun j C CI => ?_)
  have C0 := C.to
  show j _ 0 0 0 [(0, _), (1, _), (2, _), (3, _), (4, _), (5, _), (6, _)] []
  refine r_aload_n C0 0 0 dX0_init_0 rfl rfl ?_
  refine r_objInit C0 1 mlX0_1 im_oi co_oi dX0_init_1 (Nat.le_of_ble_eq_true rfl) (Nat.le_of_ble_eq_true rfl) ?_
  refine r_aload_n C0 4 0 dX0_init_4 rfl rfl ?_
  refine r_iload_n C0 5 1 dX0_init_5 rfl rfl ?_
  refine cpI_0 CI 6 flX0_7 hp dX0_init_6 ?_
  refine r_aload_n C0 9 0 dX0_init_9 rfl rfl ?_
  refine r_iload_n C0 10 2 dX0_init_10 rfl rfl ?_
  refine cpI_1 CI 11 flX0_13 hp dX0_init_11 ?_
  refine r_aload_n C0 14 0 dX0_init_14 rfl rfl ?_
  refine r_iload_n C0 15 3 dX0_init_15 rfl rfl ?_
  refine cpI_2 CI 16 flX0_16 hp dX0_init_16 ?_
  refine r_aload_n C0 19 0 dX0_init_19 rfl rfl ?_
  refine r_iload C0 20 dX0_init_20 rfl ?_
  refine cpI_3 CI 22 flX0_19 hp dX0_init_22 ?_
  refine r_aload_n C0 25 0 dX0_init_25 rfl rfl ?_
  refine r_iload C0 26 dX0_init_26 rfl ?_
  refine cpI_4 CI 28 flX0_22 hp dX0_init_28 ?_
  refine r_aload_n C0 31 0 dX0_init_31 rfl rfl ?_
  refine r_iload C0 32 dX0_init_32 rfl ?_
  refine cpI_5 C0 34 flX0_25 hp dX0_init_34 ?_
  refine r_vret C 37 dX0_init_37 (Nat.le_refl _) (Nat.le_refl _) ?_
  exact ⟨rfl, rfl⟩
set_option maxRecDepth 100000 in
theorem k_X1_init {X : XT} (hX : Xok X) {p : Nat} (hp : Is S p 1) (g n w9 : Int32)  : Cn D ar X yX1_init cX1_init 4 none 1 12 0 0 [.ref p, .int g, .int n, .int w9] (cW ar S) (fun r w => r = none ∧ w = cW ar (ordS S p g n w9)) := by
  refine Cn.ofI (own := RX1) hX (by decide) rfl rfl (Nat.le_of_ble_eq_true rfl) (fun j C CI => ?_)
  have C0 := C.to
  show j _ 0 0 0 [(0, _), (1, _), (2, _), (3, _)] []
  refine r_aload_n C0 0 0 dX1_init_0 rfl rfl ?_
  refine r_objInit C0 1 mlX1_1 im_oi co_oi dX1_init_1 (Nat.le_of_ble_eq_true rfl) (Nat.le_of_ble_eq_true rfl) ?_
  refine r_aload_n C0 4 0 dX1_init_4 rfl rfl ?_
  refine r_iload_n C0 5 1 dX1_init_5 rfl rfl ?_
  refine cpI_10 CI 6 flX1_7 hp dX1_init_6 ?_
  refine r_aload_n C0 9 0 dX1_init_9 rfl rfl ?_
  refine r_iload_n C0 10 2 dX1_init_10 rfl rfl ?_
  refine cpI_11 CI 11 flX1_13 hp dX1_init_11 ?_
  refine r_aload_n C0 14 0 dX1_init_14 rfl rfl ?_
  refine r_iload_n C0 15 3 dX1_init_15 rfl rfl ?_
  refine cpI_12 CI 16 flX1_16 hp dX1_init_16 ?_
  refine r_vret C 19 dX1_init_19 (Nat.le_refl _) (Nat.le_refl _) ?_
  exact ⟨rfl, rfl⟩
set_option maxRecDepth 100000 in
theorem k_X2_init {X : XT} (hX : Xok X) {p : Nat} (hp : Is S p 2)  : Cn D ar X yX2_init cX2_init 1 none 1 12 0 0 [.ref p] (cW ar S) (fun r w => r = none ∧ w = cW ar (uI S 27 p (-9))) := by
  refine Cn.of (own := RX2) hX (by decide) rfl (Nat.le_of_ble_eq_true rfl) (fun j C => ?_)
  have C0 := C.to
  show j _ 0 0 0 [(0, _)] []
  refine r_aload_n C0 0 0 dX2_init_0 rfl rfl ?_
  refine r_objInit C0 1 mlX2_3 im_oi co_oi dX2_init_1 (Nat.le_of_ble_eq_true rfl) (Nat.le_of_ble_eq_true rfl) ?_
  refine r_aload_n C0 4 0 dX2_init_4 rfl rfl ?_
  refine r_bipush C0 5 (-9) dX2_init_5 (by decide) ?_
  refine cpI_27 C0 7 flX2_9 hp dX2_init_7 ?_
  refine r_vret C 10 dX2_init_10 (Nat.le_refl _) (Nat.le_refl _) ?_
  exact ⟨rfl, rfl⟩
set_option maxRecDepth 100000 in
theorem k_X3_init {p : Nat} (hp : Is S p 3) (pl g : Int32)  : Cn D ar (XC tg te mi) yX3_init cX3_init 3 none 2 32 1 9 [.ref p, .int pl, .int g] (cW ar S) (fun r w => ∃ q, q ∉ S.1 ∧ r = none ∧ w = cW ar (pkrS S p q pl g)) := by
  refine Cn.ofI (own := RX3) XC_ok (by decide) rfl rfl (Nat.le_of_ble_eq_true rfl) (fun j C CI => ?_)
  have C0 := C.to
  show j _ 0 0 0 [(0, _), (1, _), (2, _)] []
  refine r_aload_n C0 0 0 dX3_init_0 rfl rfl ?_
  refine r_objInit C0 1 mlX3_1 im_oi co_oi dX3_init_1 (Nat.le_of_ble_eq_true rfl) (Nat.le_of_ble_eq_true rfl) ?_
  refine r_aload_n C0 4 0 dX3_init_4 rfl rfl ?_
  refine r_iconst C0 5 1 dX3_init_5 (by decide) ?_
  refine cpI_32 C0 6 (Or.inr rfl) flX3_7 hp dX3_init_6 ?_
  refine r_aload_n C0 9 0 dX3_init_9 rfl rfl ?_
  refine ca_new2 C0 10 clX3_13 (Nat.le_of_ble_eq_true rfl) (Nat.le_of_ble_eq_true rfl) dX3_init_10 (fun q hq => ?_)
  have hp := hp.old (kd2 := 2) hq
  refine r_dup C0 13 dX3_init_13 rfl ?_
  refine c_initN (As := []) C0 14 0 (k_X2_init XC_ok Is.new) (rm_X2_init (by decide) (by decide) (Nat.le_refl _) (Nat.le_refl _)) (fun A s h => h.2.1.1) im_X2_init rfl rfl (Nat.le_of_ble_eq_true rfl) dX3_init_14 ?_
  rintro _ _ ⟨rfl, rfl⟩
  refine cpR_0 C0 17 flX3_16 hp dX3_init_17 ?_
  refine r_aload_n C0 20 0 dX3_init_20 rfl rfl ?_
  refine r_iload_n C0 21 1 dX3_init_21 rfl rfl ?_
  refine cpI_30 CI 22 flX3_20 hp dX3_init_22 ?_
  refine r_aload_n C0 25 0 dX3_init_25 rfl rfl ?_
  refine r_iload_n C0 26 2 dX3_init_26 rfl rfl ?_
  refine cpI_31 C0 27 flX3_24 hp dX3_init_27 ?_
  refine r_vret C 30 dX3_init_30 (Nat.le_refl _) (Nat.le_refl _) ?_
  exact ⟨q, hq, rfl, rfl⟩
end C20
