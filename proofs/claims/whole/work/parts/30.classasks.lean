/-! the class: the asks, startWash, look -/
theorem uJ_uJ {S : CS} {h : Nat} {x y : Int64} : uJ (uJ S h x) h y = uJ S h y := by
  have : va_up (va_up S.2.2.2.2.2.1 h x) h y = va_up S.2.2.2.2.2.1 h y := by
    funext z
    by_cases q : z = h
    · rw [q, va_up_self, va_up_self]
    · rw [va_up_ne _ _ q, va_up_ne _ _ q, va_up_ne _ _ q]
  show (S.1, S.2.1, S.2.2.1, S.2.2.2.1, S.2.2.2.2.1, va_up (va_up S.2.2.2.2.2.1 h x) h y, S.2.2.2.2.2.2.1, S.2.2.2.2.2.2.2) = _
  rw [this]
theorem lt_2 {x : Int32} : x < 2 ↔ x ≤ 1 := by
  rw [Int32.lt_iff_toInt_lt, Int32.le_iff_toInt_le]
  have h1 : (2 : Int32).toInt = 2 := by decide
  have h2 : (1 : Int32).toInt = 1 := by decide
  rw [h1, h2]; omega
theorem lt_5 {x : Int32} : x < 5 ↔ x ≤ 4 := by
  rw [Int32.lt_iff_toInt_lt, Int32.le_iff_toInt_le]
  have h1 : (5 : Int32).toInt = 5 := by decide
  have h2 : (4 : Int32).toInt = 4 := by decide
  rw [h1, h2]; omega
def aD (d : Int32) : Int32 := if d ≤ 1 then 0 else 1
def tD (d : Int32) (T : Int64) : Int64 := if d ≤ 1 then T + 10 + 1 else T + 10
def aB (r d : Int32) : Int32 := if r < 5 then aD d else 2
def tB (r d : Int32) (T : Int64) : Int64 := if r < 5 then tD d (T + 100) else T + 100
def aC (t r d : Int32) : Int32 := if bcN t < 2 then aB r d else 3
def tC (t r d : Int32) (T : Int64) : Int64 := if bcN t < 2 then tB r d (T + 1000) else T + 1000
section C30
variable {D : va_G} {ar : Nat → ClassId} {tg te mi : Nat} {S : CS}
set_option maxRecDepth 100000 in
theorem k_X4_askSound {X : XT} (hX : Xok X) {h : Nat} (hh : Is S h 4)  : Cn D ar X yX4_askSound cX4_askSound 1 (some .int) 0 0 0 0 [.ref h] (cW ar S) (fun r w => r = some (.int 0) ∧ w = cW ar (uJ S h (S.2.2.2.2.2.1 h + 1))) := by
  refine Cn.of (own := RX4) hX (by decide) rfl (Nat.le_of_ble_eq_true rfl) (fun j C => ?_)
  have C0 := C.to
  show j _ 0 0 0 [(0, _)] []
  refine r_aload_n C0 0 0 dX4_askSound_0 rfl rfl ?_
  refine r_dup C0 1 dX4_askSound_1 rfl ?_
  refine cgJ C0 2 flX4_201 hh dX4_askSound_2 ?_
  refine r_lconst C0 5 1 dX4_askSound_5 (by decide) ?_
  refine r_ladd C0 6 dX4_askSound_6 ?_
  refine cpJ C0 7 flX4_201 hh dX4_askSound_7 ?_
  refine r_iconst C0 10 0 dX4_askSound_10 (by decide) ?_
  refine r_iret C 11 dX4_askSound_11 (Nat.le_refl _) (Nat.le_refl _) ?_
  exact ⟨rfl, rfl⟩
set_option maxRecDepth 100000 in
theorem k_X4_askDirty {X : XT} (hX : Xok X) {h x : Nat} (hh : Is S h 4) (hx : Is S x 0)   : Cn D ar X yX4_askDirty cX4_askDirty 2 (some .int) 1 20 0 0 [.ref h, .ref x] (cW ar S) (fun r w => r = some (.int (aD (S.2.2.2.1 5 x))) ∧ w = cW ar (uJ S h (tD (S.2.2.2.1 5 x) (S.2.2.2.2.2.1 h)))) := by
  refine Cn.of (own := RX4) hX (by decide) rfl (Nat.le_of_ble_eq_true rfl) (fun j C => ?_)
  have C0 := C.to
  show j _ 0 0 0 [(0, _), (1, _)] []
  refine r_aload_n C0 0 0 dX4_askDirty_0 rfl rfl ?_
  refine r_dup C0 1 dX4_askDirty_1 rfl ?_
  refine cgJ C0 2 flX4_201 hh dX4_askDirty_2 ?_
  refine r_ldc2 C0 5 cl4_256 dX4_askDirty_5 ?_
  refine r_ladd C0 8 dX4_askDirty_8 ?_
  refine cpJ C0 9 flX4_201 hh dX4_askDirty_9 ?_
  refine r_aload_n C0 12 1 dX4_askDirty_12 rfl rfl ?_
  refine cgI_5 C0 13 flX4_258 hx dX4_askDirty_13 ?_
  refine r_iconst C0 16 1 dX4_askDirty_16 (by decide) ?_
  refine r_icmp_le C0 17 24 dX4_askDirty_17 (by decide) (fun c_17 => ?_) (fun c_17 => ?_)
  · refine r_aload_n C0 24 0 dX4_askDirty_24 rfl rfl ?_
    refine c_call (As := []) C0 25 0 (k_X4_askSound hX hh) (rm_X4_askSound (by decide) (by decide) (Nat.le_refl _) (Nat.le_refl _)) mlX4_261 im_X4_askSound se_X4_askSound (by decide) rfl hh rfl (Nat.le_of_ble_eq_true rfl) dX4_askDirty_25 ?_
    rintro _ _ ⟨rfl, rfl⟩
    refine r_iret C 28 dX4_askDirty_28 (Nat.le_refl _) (Nat.le_refl _) ?_
    refine ⟨by unfold aD; rw [if_pos c_17], congrArg (cW ar) ?_⟩
    rw [uJ_uJ]
    unfold tD
    rw [if_pos c_17]
    show uJ S h (va_up S.2.2.2.2.2.1 h (S.2.2.2.2.2.1 h + 10) h + 1) = _
    rw [va_up_self]
  · refine r_iconst C0 20 1 dX4_askDirty_20 (by decide) ?_
    refine r_goto C0 21 28 dX4_askDirty_21 (by decide) ?_
    refine r_iret C 28 dX4_askDirty_28 (Nat.le_refl _) (Nat.le_refl _) ?_
    refine ⟨by unfold aD; rw [if_neg c_17], congrArg (cW ar) ?_⟩
    unfold tD
    rw [if_neg c_17]
set_option maxRecDepth 100000 in
theorem k_X4_askBloody {X : XT} (hX : Xok X) {h x : Nat} (hh : Is S h 4) (hx : Is S x 0)   : Cn D ar X yX4_askBloody cX4_askBloody 2 (some .int) 2 42 0 0 [.ref h, .ref x] (cW ar S) (fun r w => r = some (.int (aB (S.2.2.2.1 4 x) (S.2.2.2.1 5 x))) ∧ w = cW ar (uJ S h (tB (S.2.2.2.1 4 x) (S.2.2.2.1 5 x) (S.2.2.2.2.2.1 h)))) := by
  refine Cn.of (own := RX4) hX (by decide) rfl (Nat.le_of_ble_eq_true rfl) (fun j C => ?_)
  have C0 := C.to
  show j _ 0 0 0 [(0, _), (1, _)] []
  refine r_aload_n C0 0 0 dX4_askBloody_0 rfl rfl ?_
  refine r_dup C0 1 dX4_askBloody_1 rfl ?_
  refine cgJ C0 2 flX4_201 hh dX4_askBloody_2 ?_
  refine r_ldc2 C0 5 cl4_248 dX4_askBloody_5 ?_
  refine r_ladd C0 8 dX4_askBloody_8 ?_
  refine cpJ C0 9 flX4_201 hh dX4_askBloody_9 ?_
  refine r_aload_n C0 12 1 dX4_askBloody_12 rfl rfl ?_
  refine cgI_4 C0 13 flX4_250 hx dX4_askBloody_13 ?_
  refine r_iconst C0 16 5 dX4_askBloody_16 (by decide) ?_
  refine r_icmp_lt C0 17 24 dX4_askBloody_17 (by decide) (fun c_17 => ?_) (fun c_17 => ?_)
  · refine r_aload_n C0 24 0 dX4_askBloody_24 rfl rfl ?_
    refine r_aload_n C0 25 1 dX4_askBloody_25 rfl rfl ?_
    refine c_call (As := [.ref _]) C0 26 1 (k_X4_askDirty hX (S := uJ S h (S.2.2.2.2.2.1 h + 100)) hh hx) (rm_X4_askDirty (by decide) (by decide) (Nat.le_refl _) (Nat.le_refl _)) mlX4_253 im_X4_askDirty se_X4_askDirty (by decide) rfl hh rfl (Nat.le_of_ble_eq_true rfl) dX4_askBloody_26 ?_
    rintro _ _ ⟨rfl, rfl⟩
    refine r_iret C 29 dX4_askBloody_29 (Nat.le_refl _) (Nat.le_refl _) ?_
    refine ⟨by unfold aB; rw [if_pos c_17], congrArg (cW ar) ?_⟩
    rw [uJ_uJ]
    unfold tB
    rw [if_pos c_17]
    show uJ S h (tD (S.2.2.2.1 5 x) (va_up S.2.2.2.2.2.1 h (S.2.2.2.2.2.1 h + 100) h)) = _
    rw [va_up_self]
  · refine r_iconst C0 20 2 dX4_askBloody_20 (by decide) ?_
    refine r_goto C0 21 29 dX4_askBloody_21 (by decide) ?_
    refine r_iret C 29 dX4_askBloody_29 (Nat.le_refl _) (Nat.le_refl _) ?_
    refine ⟨by unfold aB; rw [if_neg c_17], congrArg (cW ar) ?_⟩
    unfold tB
    rw [if_neg c_17]
set_option maxRecDepth 100000 in
theorem k_X4_askCracked {X : XT} (hX : Xok X) {h x : Nat} (hh : Is S h 4) (hx : Is S x 0)   : Cn D ar X yX4_askCracked cX4_askCracked 2 (some .int) 3 64 0 0 [.ref h, .ref x] (cW ar S) (fun r w => r = some (.int (aC (S.2.2.2.1 3 x) (S.2.2.2.1 4 x) (S.2.2.2.1 5 x))) ∧ w = cW ar (uJ S h (tC (S.2.2.2.1 3 x) (S.2.2.2.1 4 x) (S.2.2.2.1 5 x) (S.2.2.2.2.2.1 h)))) := by
  refine Cn.of (own := RX4) hX (by decide) rfl (Nat.le_of_ble_eq_true rfl) (fun j C => ?_)
  have C0 := C.to
  show j _ 0 0 0 [(0, _), (1, _)] []
  refine r_aload_n C0 0 0 dX4_askCracked_0 rfl rfl ?_
  refine r_dup C0 1 dX4_askCracked_1 rfl ?_
  refine cgJ C0 2 flX4_201 hh dX4_askCracked_2 ?_
  refine r_ldc2 C0 5 cl4_235 dX4_askCracked_5 ?_
  refine r_ladd C0 8 dX4_askCracked_8 ?_
  refine cpJ C0 9 flX4_201 hh dX4_askCracked_9 ?_
  refine r_aload_n C0 12 1 dX4_askCracked_12 rfl rfl ?_
  refine cgI_3 C0 13 flX4_237 hx dX4_askCracked_13 ?_
  refine s_call (As := [.int _]) C0 16 1 (k_J6_bitCount_0f7a4 hX _ _) (rm_J6_bitCount_0f7a4 (by decide) (by decide) (Nat.le_refl _) (Nat.le_refl _)) mlX4_240 st_J6_bitCount_0f7a4 rfl (Nat.le_of_ble_eq_true rfl) dX4_askCracked_16 ?_
  rintro _ _ ⟨rfl, rfl⟩
  refine r_iconst C0 19 2 dX4_askCracked_19 (by decide) ?_
  refine r_icmp_lt C0 20 27 dX4_askCracked_20 (by decide) (fun c_20 => ?_) (fun c_20 => ?_)
  · refine r_aload_n C0 27 0 dX4_askCracked_27 rfl rfl ?_
    refine r_aload_n C0 28 1 dX4_askCracked_28 rfl rfl ?_
    refine c_call (As := [.ref _]) C0 29 1 (k_X4_askBloody hX (S := uJ S h (S.2.2.2.2.2.1 h + 1000)) hh hx) (rm_X4_askBloody (by decide) (by decide) (Nat.le_refl _) (Nat.le_refl _)) mlX4_245 im_X4_askBloody se_X4_askBloody (by decide) rfl hh rfl (Nat.le_of_ble_eq_true rfl) dX4_askCracked_29 ?_
    rintro _ _ ⟨rfl, rfl⟩
    refine r_iret C 32 dX4_askCracked_32 (Nat.le_refl _) (Nat.le_refl _) ?_
    refine ⟨by unfold aC; rw [if_pos c_20], congrArg (cW ar) ?_⟩
    rw [uJ_uJ]
    unfold tC
    rw [if_pos c_20]
    show uJ S h (tB (S.2.2.2.1 4 x) (S.2.2.2.1 5 x) (va_up S.2.2.2.2.2.1 h (S.2.2.2.2.2.1 h + 1000) h)) = _
    rw [va_up_self]
  · refine r_iconst C0 23 3 dX4_askCracked_23 (by decide) ?_
    refine r_goto C0 24 32 dX4_askCracked_24 (by decide) ?_
    refine r_iret C 32 dX4_askCracked_32 (Nat.le_refl _) (Nat.le_refl _) ?_
    refine ⟨by unfold aC; rw [if_neg c_20], congrArg (cW ar) ?_⟩
    unfold tC
    rw [if_neg c_20]
end C30
