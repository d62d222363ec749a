/-! the class: best, drift, grade, on, clear -/
theorem upd_tie {f g : Nat → Int32} {h : Nat → Nat} {x p : Nat} {y : Int32} (hinj : h p = h x → p = x) (he : f (h p) = g p) : upd f (h x) y (h p) = upd g x y p := by
  unfold upd
  by_cases q : p = x
  · rw [q, if_pos rfl, if_pos rfl]
  · rw [if_neg (fun z => q (hinj z)), if_neg q]; exact he
theorem upd_o {f : Nat → Int32} {x p : Nat} {y : Int32} (h : p ≠ x) : upd f x y p = f p := if_neg h
theorem up2_id {M : Nat → Nat → Int32} {f x : Nat} : up2 M f x (M f x) = M := by
  funext g
  by_cases h : g = f
  · subst h
    rw [up2_s]
    funext z
    unfold upd
    by_cases q : z = x
    · rw [if_pos q, q]
    · rw [if_neg q]
  · rw [up2_n h]
section C24
variable {te : Nat} {S : CS} {a v : Nat → Nat} {w : Nat → Nat → Nat} {E Q W P O : Nat} {M : Nat → Nat → Int32} {T : Int64}
theorem btsN_c {M N : Nat → Nat → Int32} (h1 : N 1 = M 1) (h20 : N 20 = M 20) (p : Nat) : ∀ k, btsN N p k = btsN M p k
  | 0 => rfl
  | k + 1 => by
    show btsN N p k ||| _ = btsN M p k ||| _
    rw [btsN_c h1 h20 p k, h1, h20]
theorem trE_c {M N : Nat → Nat → Int32} (h20 : N 20 = M 20) (p k : Nat) : trE N p k = trE M p k := by unfold trE; rw [h20]
theorem trF_c {M N : Nat → Nat → Int32} (h7 : N 7 = M 7) (h20 : N 20 = M 20) (p : Nat) : ∀ k, trF N p k = trF M p k
  | 0 => by
    show N 7 (trE N p 0) = M 7 (trE M p 0)
    rw [h7, trE_c h20]
  | k + 1 => by
    show (if trF N p k ≤ N 7 (trE N p k) then trF N p k else N 7 (trE N p k)) = (if trF M p k ≤ M 7 (trE M p k) then trF M p k else M 7 (trE M p k))
    rw [trF_c h7 h20 p k, h7, trE_c h20]
theorem trL_c {M N : Nat → Nat → Int32} (h7 : N 7 = M 7) (h20 : N 20 = M 20) (p : Nat) : ∀ k, trL N p k = trL M p k
  | 0 => by
    show N 7 (trE N p 0) = M 7 (trE M p 0)
    rw [h7, trE_c h20]
  | k + 1 => by
    show (if N 7 (trE N p k) ≤ trL N p k then trL N p k else N 7 (trE N p k)) = (if M 7 (trE M p k) ≤ trL M p k then trL M p k else M 7 (trE M p k))
    rw [trL_c h7 h20 p k, h7, trE_c h20]
theorem trW_c {M N : Nat → Nat → Int32} (h2 : N 2 = M 2) (h20 : N 20 = M 20) (p : Nat) : ∀ k, trW N p k = trW M p k
  | 0 => rfl
  | k + 1 => by
    show trW N p k + N 2 (trE N p k) = trW M p k + M 2 (trE M p k)
    rw [trW_c h2 h20 p k, h2, trE_c h20]
theorem trT_c {M N : Nat → Nat → Int32} (h6 : N 6 = M 6) (h20 : N 20 = M 20) (p : Nat) : ∀ k, trT N p k = trT M p k
  | 0 => rfl
  | k + 1 => by
    show trT N p k + N 6 (trE N p k) = trT M p k + M 6 (trE M p k)
    rw [trT_c h6 h20 p k, h6, trE_c h20]
theorem cTr.c {M N : Nat → Nat → Int32} (h : cTr w S M) (h1 : N 1 = M 1) (h2 : N 2 = M 2) (h6 : N 6 = M 6) (h7 : N 7 = M 7) (h19 : N 19 = M 19) (h20 : N 20 = M 20) : cTr w S N := fun p hp => by
  rw [h19, btsN_c h1 h20, trF_c h7 h20, trL_c h7 h20, trW_c h2 h20, trT_c h6 h20]
  exact h p hp
theorem CI.drift (ci : CI te a v w E Q W P O S M T) (y : Int32) : CI te a v w E Q W P O (uI S 41 (a 0) y) (up2 M 36 0 y) T := by
  obtain ⟨c1, c2, c3, c4, c5, c6, c7, c8, c9, c10, c11, c12, c13⟩ := ci
  exact ⟨⟨c1.1, c1.2.1, c1.2.2.1, (show up2 S.2.2.2.1 41 (a 0) y 41 (a 0) = up2 M 36 0 y 36 0 by rw [up2_e, up2_e]), c1.2.2.2.2⟩, c2, c3, c4, c5, c6, c7, cTr.c (N := up2 M 36 0 y) c8 rfl rfl rfl rfl rfl rfl, c9, c10, c11, c12, c13⟩
theorem CI.grade (ci : CI te a v w E Q W P O S M T) {x : Nat} (hx : x < 4) (y : Int32) : CI te a v w E Q W P O (uI S 31 (a (20 + x)) y) (up2 M 16 x y) T := by
  obtain ⟨c1, c2, c3, c4, c5, c6, c7, c8, c9, c10, c11, c12, c13⟩ := ci
  refine ⟨c1, c2, c3, c4, c5, c6, ⟨c7.1, c7.2.1, fun p hp => ?_⟩, cTr.c (N := up2 M 16 x y) c8 rfl rfl rfl rfl rfl rfl, c9, c10, c11, c12, c13⟩
  obtain ⟨d1, d2, d3, d4, d5, d6, d7, d8⟩ := c7.2.2 p hp
  refine ⟨d1, d2, d3, ?_, d5, d6, d7, d8⟩
  show up2 S.2.2.2.1 31 (a (20 + x)) y 31 (a (20 + p)) = up2 M 16 x y 16 p
  rw [up2_s, up2_s]
  exact upd_tie (h := fun p => a (20 + p)) (fun z => c13.2.2.2.2.2.2.1 p x hp hx z) d4
theorem CI.on (ci : CI te a v w E Q W P O S M T) {x : Nat} (hx : x < 4) {z : Int32} (hz : z = 0 ∨ z = 1) : CI te a v w E Q W P O (uI S 32 (a (20 + x)) z) (up2 M 17 x (if z = 0 then 1 else 0)) T := by
  obtain ⟨c1, c2, c3, c4, c5, c6, c7, c8, c9, c10, c11, c12, c13⟩ := ci
  refine ⟨c1, c2, c3, c4, c5, c6, ⟨c7.1, c7.2.1, fun p hp => ?_⟩, cTr.c (N := up2 M 17 x (if z = 0 then 1 else 0)) c8 rfl rfl rfl rfl rfl rfl, c9, c10, c11, c12, c13⟩
  obtain ⟨d1, d2, d3, d4, d5, d6, d7, d8⟩ := c7.2.2 p hp
  refine ⟨d1, d2, d3, d4, ?_, d6, d7, d8⟩
  show up2 S.2.2.2.1 32 (a (20 + x)) z 32 (a (20 + p)) = if up2 M 17 x (if z = 0 then 1 else 0) 17 p = 0 then 1 else 0
  rw [up2_s, up2_s]
  unfold upd
  by_cases q : p = x
  · rw [q, if_pos rfl, if_pos rfl]
    rcases hz with rfl | rfl <;> rfl
  · rw [if_neg (fun z => q (c13.2.2.2.2.2.2.1 p x hp hx z)), if_neg q]; exact d5
theorem CI.held (ci : CI te a v w E Q W P O S M T) {x : Nat} (hx : x < P) (y : Int32) : CI te a v w E Q W P O (uI S 28 (w 1 x) y) (up2 M 29 x y) T := by
  obtain ⟨c1, c2, c3, c4, c5, c6, c7, c8, c9, c10, c11, c12, c13⟩ := ci
  refine ⟨c1, c2, c3, c4, c5, c6, c7, fun p hp => ?_, fun i hi => ?_, c10, c11, c12, c13⟩
  · obtain ⟨d1, d2, d3, d4, d5, d6, d7, d8⟩ := (cTr.c (N := up2 M 29 x y) c8 rfl rfl rfl rfl rfl rfl) p hp
    refine ⟨d1, d2, d3, d4, d5, d6, d7, ?_⟩
    show up2 S.2.2.2.1 28 (w 1 x) y 28 (w 2 p) = 0
    rw [up2_s, upd_o (fun z => c13.2.2.2.2.2.1 x p hx hp z.symm)]
    exact d8
  · obtain ⟨d1, d2, d3, d4, d5, d6, d7, d8, d9⟩ := c9 i hi
    refine ⟨d1, d2, d3, d4, d5, d6, d7, d8, ?_⟩
    show up2 S.2.2.2.1 28 (w 1 x) y 28 (w 1 i) = up2 M 29 x y 29 i
    rw [up2_s, up2_s]
    exact upd_tie (h := w 1) (fun z => c13.2.2.2.1 i x hi hx z) d9
end C24
theorem lk2n {x : Int32} (h : x.toInt < 0 ∨ ((2 : Nat) : Int) - 1 < x.toInt) : Op.lookupswitch.offset (#[(0, 27), (1, 32)] : Array (Int × Int)).toList 41 x.toInt = 41 := by
  show Op.lookupswitch.offset [(0, 27), (1, 32)] 41 x.toInt = 41
  rw [Op.lookupswitch.offset_cons, Op.lookupswitch.offset_cons, Op.lookupswitch.offset_nil]
  have h0 : ¬ x.toInt = 0 := by omega
  have h1 : ¬ x.toInt = 1 := by omega
  have h0' : ¬ 0 = x.toInt := by omega
  have h1' : ¬ 1 = x.toInt := by omega
  simp [h0, h1, h0', h1']
theorem inR_o2 {x : Int32} (h : x.toInt < 0 ∨ ((2 : Nat) : Int) - 1 < x.toInt) : inR x 0 1 = 0 := by
  rw [inR_0, Int32.le_iff_toInt_le, Int32.le_iff_toInt_le]
  show ¬ ((0 : Int) ≤ x.toInt ∧ x.toInt ≤ 1)
  omega
section C24b
variable {D : va_G} {ar : Nat → ClassId} {tg te mi : Nat} {S : CS}
variable {a v : Nat → Nat} {w : Nat → Nat → Nat} {E Q W P O : Nat} {M : Nat → Nat → Int32} {T : Int64}
set_option maxRecDepth 100000 in
theorem k_X4_best (ci : CI te a v w E Q W P O S M T) (wh : Int32)  : Cn D ar (XC tg te mi) yX4_best cX4_best 2 (some .int) 6 138 1 6 [.ref (a 0), .int wh] (cW ar S) (fun r w9 => r = some (.int (bestA M P O wh)) ∧ ∃ S', w9 = cW ar S' ∧ Ext S S') := by
  refine Cn.of (own := RX4) XC_ok (by decide) rfl (Nat.le_of_ble_eq_true rfl) (fun j C => ?_)
  have C0 := C.to
  show j _ 0 0 0 [(0, _), (1, _)] []
  have hs := ci.1
  have pk := ci.2.2.2.1
  have pa := ci.2.2.2.2.2.2.2.2.1
  have pr := ci.2.2.2.2.2.2.1
  have tr := ci.2.2.2.2.2.2.2.1
  have od := ci.2.2.2.2.1
  have oo := ci.2.2.2.2.2.2.2.2.2.2.1
  refine r_iload_n C0 0 1 dX4_best_0 rfl rfl ?_
  have hex : Ext S S := ⟨fun x hx => ⟨hx, rfl, rfl, rfl, rfl⟩, rfl, rfl, rfl⟩
  rcases swc 2 (by decide) wh with ⟨i, hi, rfl⟩ | ho
  · rcases (show i = 0 ∨ i = 1 by omega) with rfl | rfl
    · refine r_lookup C0 1 28 dX4_best_1 (by decide) rfl (by decide) ?_
      refine r_aload_n C0 28 0 dX4_best_28 rfl rfl ?_
      refine c_call (As := []) C0 29 0 (k_X4_bestSet ci) (rm_X4_bestSet (by decide) (by decide) (Nat.le_refl _) (Nat.le_refl _)) mlX4_168 im_X4_bestSet se_X4_bestSet (by decide) rfl hs.1 rfl (Nat.le_of_ble_eq_true rfl) dX4_best_29 ?_
      rintro _ _ ⟨rfl, S', rfl, hx⟩
      refine r_iret C 32 dX4_best_32 (Nat.le_refl _) (Nat.le_of_ble_eq_true rfl) ?_
      exact ⟨rfl, S', rfl, hx⟩
    · refine r_lookup C0 1 33 dX4_best_1 (by decide) rfl (by decide) ?_
      refine r_aload_n C0 33 0 dX4_best_33 rfl rfl ?_
      refine r_aload_n C0 34 0 dX4_best_34 rfl rfl ?_
      refine c_call (As := []) C0 35 0 (k_X4_bestSet ci) (rm_X4_bestSet (by decide) (by decide) (Nat.le_refl _) (Nat.le_refl _)) mlX4_168 im_X4_bestSet se_X4_bestSet (by decide) rfl hs.1 rfl (Nat.le_of_ble_eq_true rfl) dX4_best_35 ?_
      rintro _ _ ⟨rfl, S', rfl, hx⟩
      have ci2 := hx.ci ci
      refine c_call (As := [.int _]) C0 38 1 (k_X4_worthOf ci2.1 ci2.2.2.2.2.1 ci2.2.2.2.2.2.2.2.2.2.2.1 _) (rm_X4_worthOf (by decide) (by decide) (Nat.le_of_ble_eq_true rfl) (Nat.le_of_ble_eq_true rfl)) mlX4_171 im_X4_worthOf se_X4_worthOf (by decide) rfl ci2.1.1 rfl (Nat.le_of_ble_eq_true rfl) dX4_best_38 ?_
      rintro _ _ ⟨rfl, rfl⟩
      refine r_iret C 41 dX4_best_41 (Nat.le_refl _) (Nat.le_of_ble_eq_true rfl) ?_
      exact ⟨rfl, S', rfl, hx⟩
  · refine r_lookup C0 1 42 dX4_best_1 (by decide) (lk2n ho) (by decide) ?_
    refine r_iconst C0 42 (-1) dX4_best_42 (by decide) ?_
    refine r_iret C 43 dX4_best_43 (Nat.zero_le _) (Nat.zero_le _) ?_
    refine ⟨?_, S, rfl, hex⟩
    unfold bestA
    rw [inR_o2 ho]
    rfl
set_option maxRecDepth 100000 in
theorem k_X4_drift (ci : CI te a v w E Q W P O S M T) (y : Int32)  : Cn D ar (XC tg te mi) yX4_drift cX4_drift 3 (some .int) 1 22 0 0 [.ref (a 0), .int y] (cW ar S) (fun r w9 => r = some (.int (if inR y (-9) 9 = 0 then -1000 else M 36 0)) ∧ ∃ S', w9 = cW ar S' ∧ CI te a v w E Q W P O S' (if inR y (-9) 9 = 0 then M else up2 M 36 0 y) T) := by
  refine Cn.of (own := RX4) XC_ok (by decide) rfl (Nat.le_of_ble_eq_true rfl) (fun j C => ?_)
  have C0 := C.to
  show j _ 0 0 0 [(0, _), (1, _)] []
  have hs := ci.1
  have pk := ci.2.2.2.1
  have pa := ci.2.2.2.2.2.2.2.2.1
  have pr := ci.2.2.2.2.2.2.1
  have tr := ci.2.2.2.2.2.2.2.1
  have od := ci.2.2.2.2.1
  have oo := ci.2.2.2.2.2.2.2.2.2.2.1
  refine r_iload_n C0 0 1 dX4_drift_0 rfl rfl ?_
  refine r_bipush C0 1 (-9) dX4_drift_1 (by decide) ?_
  refine r_bipush C0 3 9 dX4_drift_3 (by decide) ?_
  refine s_call (As := [.int _, .int _, .int _]) C0 5 3 (k_X4_isWithin XC_ok _ _ _ _) (rm_X4_isWithin (by decide) (by decide) (Nat.le_refl _) (Nat.le_refl _)) mlX4_49 st_X4_isWithin rfl (Nat.le_of_ble_eq_true rfl) dX4_drift_5 ?_
  rintro _ _ ⟨rfl, rfl⟩
  refine r_if_ne C0 8 15 dX4_drift_8 (by decide) (fun c_8 => ?_) (fun c_8 => ?_)
  · refine r_aload_n C0 15 0 dX4_drift_15 rfl rfl ?_
    refine cgI_41 C0 16 flX4_75 hs.1 dX4_drift_16 ?_
    refine r_istore_n (lv' := [(0, _), (1, _), (2, _)]) C0 19 2 dX4_drift_19 rfl rfl (by decide) rfl ?_
    refine r_aload_n C0 20 0 dX4_drift_20 rfl rfl ?_
    refine r_iload_n C0 21 1 dX4_drift_21 rfl rfl ?_
    refine cpI_41 C0 22 flX4_75 hs.1 dX4_drift_22 ?_
    refine r_iload_n C0 25 2 dX4_drift_25 rfl rfl ?_
    refine r_iret C 26 dX4_drift_26 (Nat.le_refl _) (Nat.le_refl _) ?_
    exact ⟨by rw [if_neg c_8, hs.2.2.2.1], _, rfl, by rw [if_neg c_8]; exact ci.drift y⟩
  · refine r_sipush C0 11 (-1000) dX4_drift_11 (by decide) ?_
    refine r_iret C 14 dX4_drift_14 (Nat.le_refl _) (Nat.le_refl _) ?_
    exact ⟨by rw [if_pos c_8], S, rfl, by rw [if_pos c_8]; exact ci⟩
set_option maxRecDepth 100000 in
theorem k_X4_grade (ci : CI te a v w E Q W P O S M T) (p y : Int32)  : Cn D ar (XC tg te mi) yX4_grade cX4_grade 5 (some .int) 2 42 0 0 [.ref (a 0), .int p, .int y] (cW ar S) (fun r w9 => r = some (.int (grdA M p y).2) ∧ ∃ S', w9 = cW ar S' ∧ CI te a v w E Q W P O S' (grdA M p y).1 T) := by
  refine Cn.of (own := RX4) XC_ok (by decide) rfl (Nat.le_of_ble_eq_true rfl) (fun j C => ?_)
  have C0 := C.to
  show j _ 0 0 0 [(0, _), (1, _), (2, _)] []
  have hs := ci.1
  have pk := ci.2.2.2.1
  have pa := ci.2.2.2.2.2.2.2.2.1
  have pr := ci.2.2.2.2.2.2.1
  have tr := ci.2.2.2.2.2.2.2.1
  have od := ci.2.2.2.2.1
  have oo := ci.2.2.2.2.2.2.2.2.2.2.1
  refine r_iload_n C0 0 1 dX4_grade_0 rfl rfl ?_
  refine s_call (As := [.int _]) C0 1 1 (k_X4_isPacker XC_ok _ _) (rm_X4_isPacker (by decide) (by decide) (Nat.le_refl _) (Nat.le_refl _)) mlX4_78 st_X4_isPacker rfl (Nat.le_of_ble_eq_true rfl) dX4_grade_1 ?_
  rintro _ _ ⟨rfl, rfl⟩
  refine r_if_eq C0 4 14 dX4_grade_4 (by decide) (fun c_4 => ?_) (fun c_4 => ?_)
  · refine r_iconst C0 14 (-1) dX4_grade_14 (by decide) ?_
    refine r_iret C 15 dX4_grade_15 (Nat.le_refl _) (Nat.le_refl _) ?_
    exact ⟨by simp [grdA, eq_true c_4], S, rfl, by simp only [grdA, eq_true c_4]; exact ci⟩
  · refine r_iload_n C0 7 2 dX4_grade_7 rfl rfl ?_
    refine s_call (As := [.int _]) C0 8 1 (k_X4_isGrade XC_ok _ _) (rm_X4_isGrade (by decide) (by decide) (Nat.le_refl _) (Nat.le_refl _)) mlX4_81 st_X4_isGrade rfl (Nat.le_of_ble_eq_true rfl) dX4_grade_8 ?_
    rintro _ _ ⟨rfl, rfl⟩
    refine r_if_ne C0 11 16 dX4_grade_11 (by decide) (fun c_11 => ?_) (fun c_11 => ?_)
    · obtain ⟨x, hx, rfl⟩ := inR_3 c_4
      have hcl : (nI x).toNatClampNeg = x := nI_clamp (by omega)
      have d := pr.2.2 x hx
      have t := tr x hx
      refine r_aload_n C0 16 0 dX4_grade_16 rfl rfl ?_
      refine cgR_4 C0 17 hs.2.1.2.2.2.1 flX4_27 hs.1 dX4_grade_17 ?_
      refine r_iload_n C0 20 1 dX4_grade_20 rfl rfl ?_
      refine ca_ald C0 21 x (by decide) pr.1 rfl (by rw [pr.2.1]; exact hx) (by rw [pr.2.1]; decide) d.1 dX4_grade_21 ?_
      refine r_astore_n (lv' := [(0, _), (1, _), (2, _), (3, _)]) C0 22 3 dX4_grade_22 rfl rfl (by decide) rfl ?_
      refine r_aload_n C0 23 3 dX4_grade_23 rfl rfl ?_
      refine cgR_0 C0 24 d.2.2.2.2.2.2.1 flX4_84 d.2.1 dX4_grade_24 ?_
      refine cgI_21 C0 27 flX4_88 d.2.2.2.2.2.2.2 dX4_grade_27 ?_
      rw [t.1]
      refine r_if_le C0 30 36 dX4_grade_30 (by decide) (fun c_30 => ?_) (fun c_30 => ?_)
      · refine r_aload_n C0 36 3 dX4_grade_36 rfl rfl ?_
        refine cgI_31 C0 37 flX4_93 d.2.1 dX4_grade_37 ?_
        rw [d.2.2.2.1]
        refine r_istore (lv' := [(0, _), (1, _), (2, _), (3, _), (4, _)]) C0 40 dX4_grade_40 rfl (by decide) rfl ?_
        refine r_aload_n C0 42 3 dX4_grade_42 rfl rfl ?_
        refine r_iload_n C0 43 2 dX4_grade_43 rfl rfl ?_
        refine cpI_31 C0 44 flX4_93 d.2.1 dX4_grade_44 ?_
        refine r_iload C0 47 dX4_grade_47 rfl ?_
        refine r_iret C 49 dX4_grade_49 (Nat.le_refl _) (Nat.le_refl _) ?_
        exact ⟨by simp only [grdA, hcl, eq_false c_4, eq_false c_11, eq_true c_30]; rfl, _, rfl, by simp only [grdA, hcl, eq_false c_4, eq_false c_11, eq_true c_30]; exact ci.grade hx y⟩
      · refine r_bipush C0 33 (-2) dX4_grade_33 (by decide) ?_
        refine r_iret C 35 dX4_grade_35 (Nat.le_refl _) (Nat.le_refl _) ?_
        exact ⟨by simp only [grdA, hcl, eq_false c_4, eq_false c_11, eq_false c_30]; rfl, S, rfl, by simp only [grdA, hcl, eq_false c_4, eq_false c_11, eq_false c_30]; exact ci⟩
    · refine r_iconst C0 14 (-1) dX4_grade_14 (by decide) ?_
      refine r_iret C 15 dX4_grade_15 (Nat.le_refl _) (Nat.le_refl _) ?_
      exact ⟨by simp [grdA, eq_false c_4, eq_true c_11], S, rfl, by simp only [grdA, eq_false c_4, eq_true c_11]; exact ci⟩
set_option maxRecDepth 100000 in
theorem k_X4_on (ci : CI te a v w E Q W P O S M T) (p z : Int32) (hz : z = 0 ∨ z = 1)  : Cn D ar (XC tg te mi) yX4_on cX4_on 5 (some .int) 2 42 0 0 [.ref (a 0), .int p, .int z] (cW ar S) (fun r w9 => r = some (.int (onA M p z).2) ∧ ∃ S', w9 = cW ar S' ∧ CI te a v w E Q W P O S' (onA M p z).1 T) := by
  refine Cn.of (own := RX4) XC_ok (by decide) rfl (Nat.le_of_ble_eq_true rfl) (fun j C => ?_)
  have C0 := C.to
  show j _ 0 0 0 [(0, _), (1, _), (2, _)] []
  have hs := ci.1
  have pk := ci.2.2.2.1
  have pa := ci.2.2.2.2.2.2.2.2.1
  have pr := ci.2.2.2.2.2.2.1
  have tr := ci.2.2.2.2.2.2.2.1
  have od := ci.2.2.2.2.1
  have oo := ci.2.2.2.2.2.2.2.2.2.2.1
  refine r_iload_n C0 0 1 dX4_on_0 rfl rfl ?_
  refine s_call (As := [.int _]) C0 1 1 (k_X4_isPacker XC_ok _ _) (rm_X4_isPacker (by decide) (by decide) (Nat.le_refl _) (Nat.le_refl _)) mlX4_78 st_X4_isPacker rfl (Nat.le_of_ble_eq_true rfl) dX4_on_1 ?_
  rintro _ _ ⟨rfl, rfl⟩
  refine r_if_ne C0 4 9 dX4_on_4 (by decide) (fun c_4 => ?_) (fun c_4 => ?_)
  · obtain ⟨x, hx, rfl⟩ := inR_3 c_4
    have hcl : (nI x).toNatClampNeg = x := nI_clamp (by omega)
    have d := pr.2.2 x hx
    have t := tr x hx
    refine r_aload_n C0 9 0 dX4_on_9 rfl rfl ?_
    refine cgR_4 C0 10 hs.2.1.2.2.2.1 flX4_27 hs.1 dX4_on_10 ?_
    refine r_iload_n C0 13 1 dX4_on_13 rfl rfl ?_
    refine ca_ald C0 14 x (by decide) pr.1 rfl (by rw [pr.2.1]; exact hx) (by rw [pr.2.1]; decide) d.1 dX4_on_14 ?_
    refine r_astore_n (lv' := [(0, _), (1, _), (2, _), (3, _)]) C0 15 3 dX4_on_15 rfl rfl (by decide) rfl ?_
    refine r_aload_n C0 16 3 dX4_on_16 rfl rfl ?_
    refine cgI_32 C0 17 flX4_96 d.2.1 dX4_on_17 ?_
    rw [d.2.2.2.2.1]
    refine s_call (As := [.int _]) C0 20 1 (k_X4_asNumber XC_ok _ _) (rm_X4_asNumber (by decide) (by decide) (Nat.le_refl _) (Nat.le_refl _)) mlX4_100 st_X4_asNumber rfl (Nat.le_of_ble_eq_true rfl) dX4_on_20 ?_
    rintro _ _ ⟨rfl, rfl⟩
    refine r_istore (lv' := [(0, _), (1, _), (2, _), (3, _), (4, _)]) C0 23 dX4_on_23 rfl (by decide) rfl ?_
    refine r_aload_n C0 25 3 dX4_on_25 rfl rfl ?_
    refine r_iload_n C0 26 2 dX4_on_26 rfl rfl ?_
    refine cpI_32 C0 27 hz flX4_96 d.2.1 dX4_on_27 ?_
    refine r_iload C0 30 dX4_on_30 rfl ?_
    refine r_iret C 32 dX4_on_32 (Nat.le_refl _) (Nat.le_refl _) ?_
    exact ⟨by simp only [onA, hcl, eq_false c_4]; by_cases q : M 17 x = 0 <;> simp [q], _, rfl, by simp only [onA, hcl, eq_false c_4]; exact ci.on hx hz⟩
  · refine r_iconst C0 7 (-1) dX4_on_7 (by decide) ?_
    refine r_iret C 8 dX4_on_8 (Nat.le_refl _) (Nat.le_refl _) ?_
    exact ⟨by simp [onA, eq_true c_4], S, rfl, by simp only [onA, eq_true c_4]; exact ci⟩
set_option maxRecDepth 100000 in
theorem k_X4_clear (ci : CI te a v w E Q W P O S M T) (p : Int32)  : Cn D ar (XC tg te mi) yX4_clear cX4_clear 3 (some .int) 3 64 0 0 [.ref (a 0), .int p] (cW ar S) (fun r w9 => r = some (.int (clrA M p).2) ∧ ∃ S', w9 = cW ar S' ∧ CI te a v w E Q W P O S' (clrA M p).1 T) := by
  refine Cn.of (own := RX4) XC_ok (by decide) rfl (Nat.le_of_ble_eq_true rfl) (fun j C => ?_)
  have C0 := C.to
  show j _ 0 0 0 [(0, _), (1, _)] []
  have hs := ci.1
  have pk := ci.2.2.2.1
  have pa := ci.2.2.2.2.2.2.2.2.1
  have pr := ci.2.2.2.2.2.2.1
  have tr := ci.2.2.2.2.2.2.2.1
  have od := ci.2.2.2.2.1
  have oo := ci.2.2.2.2.2.2.2.2.2.2.1
  have hP := pk.1.2
  have hP6 := pk.1.1
  refine r_aload_n C0 0 0 dX4_clear_0 rfl rfl ?_
  refine r_iload_n C0 1 1 dX4_clear_1 rfl rfl ?_
  refine c_call (As := [.int _]) C0 2 1 (k_X4_isPack XC_ok hs.1 hs.2.1.2.2.2.2.1 pk.2.1 _) (rm_X4_isPack (by decide) (by decide) (Nat.le_refl _) (Nat.le_refl _)) mlX4_134 im_X4_isPack se_X4_isPack (by decide) rfl hs.1 rfl (Nat.le_of_ble_eq_true rfl) dX4_clear_2 ?_
  rintro _ _ ⟨rfl, rfl⟩
  rw [pk.2.2.1]
  refine r_if_ne C0 5 10 dX4_clear_5 (by decide) (fun c_5 => ?_) (fun c_5 => ?_)
  · obtain ⟨x, hx, rfl⟩ : ∃ x : Nat, x < P ∧ p = nI x := inR_p (by omega) c_5
    have hcl : (nI x).toNatClampNeg = x := nI_clamp (by omega)
    have d := pa x hx
    refine r_aload_n C0 10 0 dX4_clear_10 rfl rfl ?_
    refine cgR_5 C0 11 hs.2.1.2.2.2.2.1 flX4_31 hs.1 dX4_clear_11 ?_
    refine r_iload_n C0 14 1 dX4_clear_14 rfl rfl ?_
    refine c_call (As := [.int _]) C0 15 1 (k_Jx4a65c_get_915e3 XC_ok pk.2 hx) (rm_Jx4a65c_get_915e3 (by decide) (by decide) (Nat.le_refl _) (Nat.le_refl _)) mlX4_137 im_Jx4a65c_get_915e3 se_Jx4a65c_get_915e3 (by decide) rfl pk.2.1 rfl (Nat.le_of_ble_eq_true rfl) dX4_clear_15 ?_
    rintro _ _ ⟨rfl, rfl⟩
    refine ca_cast C0 18 (by decide) rfl clX4_89 (pa x hx).1 dX4_clear_18 ?_
    refine r_astore_n (lv' := [(0, _), (1, _), (2, _)]) C0 21 2 dX4_clear_21 rfl rfl (by decide) rfl ?_
    refine r_aload_n C0 22 2 dX4_clear_22 rfl rfl ?_
    refine cgI_28 C0 23 flX4_151 (pa x hx).1 dX4_clear_23 ?_
    rw [d.2.2.2.2.2.2.2.2]
    refine r_if_ne C0 26 32 dX4_clear_26 (by decide) (fun c_26 => ?_) (fun c_26 => ?_)
    · refine r_aload_n C0 32 2 dX4_clear_32 rfl rfl ?_
      refine r_iconst C0 33 0 dX4_clear_33 (by decide) ?_
      refine cpI_28 C0 34 (Or.inl rfl) flX4_151 (pa x hx).1 dX4_clear_34 ?_
      refine r_iconst C0 37 1 dX4_clear_37 (by decide) ?_
      refine r_iret C 38 dX4_clear_38 (Nat.le_refl _) (Nat.le_refl _) ?_
      exact ⟨by simp only [clrA, hP, hcl, eq_false c_5, eq_false c_26]; rfl, _, rfl, by simp only [clrA, hP, hcl, eq_false c_5, eq_false c_26]; exact ci.held hx 0⟩
    · refine r_bipush C0 29 (-2) dX4_clear_29 (by decide) ?_
      refine r_iret C 31 dX4_clear_31 (Nat.le_refl _) (Nat.le_refl _) ?_
      exact ⟨by simp only [clrA, hP, hcl, eq_false c_5, eq_true c_26]; rfl, S, rfl, by simp only [clrA, hP, hcl, eq_false c_5, eq_true c_26]; exact ci⟩
  · refine r_iconst C0 8 (-1) dX4_clear_8 (by decide) ?_
    refine r_iret C 9 dX4_clear_9 (Nat.le_refl _) (Nat.le_refl _) ?_
    exact ⟨by simp [clrA, hP, eq_true c_5], S, rfl, by simp only [clrA, hP, eq_true c_5]; exact ci⟩
end C24b
