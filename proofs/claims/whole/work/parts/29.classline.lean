/-! the class: moveLine, weigh -/
section C29
variable {te : Nat} {S S' : CS} {a v : Nat → Nat} {w : Nat → Nat → Nat} {E Q W P O : Nat} {M : Nat → Nat → Int32} {T : Int64}
theorem LsA.uB {p n e cap x kd : Nat} {f : Nat → Nat} {g : Nat → Option Nat} (l : LsA te S p n e cap f) (hx : Is S x kd) (hk : kd ≠ 10) : LsA te (uB S x g) p n e cap f := by
  obtain ⟨l1, l2, l3, l4, l5, l6⟩ := l
  refine ⟨l1, l2, l3, l4, l5, fun i hi => ⟨?_, (l6 i hi).2⟩⟩
  rcases l5 with z | ⟨z1, z2, z3⟩
  · exact absurd hi (by omega)
  · show va_up S.2.2.2.2.2.2.2 x g e i = some (f i)
    rw [va_up_ne _ _ (fun q => hk (by rw [← hx.2, ← q]; exact z1.2))]
    exact (l6 i hi).1
theorem CI.line (c : CI te a v w E Q W P O S M T) {x : Nat} {y : Int32} {o : Option Nat} (ho : o = if y = 0 then none else some (w 0 (y - 1).toNatClampNeg)) : CI te a v w E Q W P O (uB S (a 3) (va_up (S.2.2.2.2.2.2.2 (a 3)) x o)) (up2 M 10 x y) T := by
  obtain ⟨c1, c2, c3, c4, c5, c6, c7, c8, c9, c10, c11, c12, c13⟩ := c
  refine ⟨c1, ⟨c2.1, c2.2.uB c6.1 (by decide)⟩, ⟨c3.1, c3.2.1.uB c6.1 (by decide), c3.2.2⟩, ⟨c4.1, c4.2.uB c6.1 (by decide)⟩, ⟨c5.1, c5.2.uB c6.1 (by decide)⟩, ⟨c6.1, c6.2.1, fun k hk => ?_⟩, ⟨c7.1, c7.2.1, fun p hp => ?_⟩, cTr.c (N := up2 M 10 x y) c8 rfl rfl rfl rfl rfl rfl, c9, c10, c11, ⟨c12.1, c12.2.1, fun b hb => ?_⟩, c13⟩
  · show va_up S.2.2.2.2.2.2.2 (a 3) (va_up (S.2.2.2.2.2.2.2 (a 3)) x o) (a 3) k = if up2 M 10 x y 10 k = 0 then none else some (w 0 (up2 M 10 x y 10 k - 1).toNatClampNeg)
    rw [va_up_self, up2_s]
    by_cases h : k = x
    · rw [h, va_up_self, show upd (M 10) x y x = y from if_pos rfl]; exact ho
    · rw [va_up_ne _ _ h, upd_o h]; exact c6.2.2 k hk
  · have h4 : a 4 ≠ a 3 := fun q => absurd (c7.1.2.symm.trans ((congrArg S.2.1 q).trans c6.1.2)) (by decide)
    obtain ⟨d1, d⟩ := c7.2.2 p hp
    refine ⟨?_, d⟩
    show va_up S.2.2.2.2.2.2.2 (a 3) (va_up (S.2.2.2.2.2.2.2 (a 3)) x o) (a 4) p = some (a (20 + p))
    rw [va_up_ne _ _ h4]; exact d1
  · have h4 : a 7 ≠ a 3 := fun q => absurd (c12.1.2.symm.trans ((congrArg S.2.1 q).trans c6.1.2)) (by decide)
    obtain ⟨d1, d⟩ := c12.2.2 b hb
    refine ⟨?_, d⟩
    show va_up S.2.2.2.2.2.2.2 (a 3) (va_up (S.2.2.2.2.2.2.2 (a 3)) x o) (a 7) b = some (a (10 + b))
    rw [va_up_ne _ _ h4]; exact d1
theorem CI.jt (c : CI te a v w E Q W P O S M T) (y : Int64) : CI te a v w E Q W P O (uJ S (a 0) y) M y := by
  obtain ⟨c1, c2, c3, c4, c5, c6, c7, c8, c9, c10, c11, c12, c13⟩ := c
  exact ⟨⟨c1.1, c1.2.1, c1.2.2.1, c1.2.2.2.1, c1.2.2.2.2.1, va_up_self _ _ _⟩, c2, c3, c4, c5, c6, c7, c8, c9, c10, c11, c12, c13⟩
theorem CI.tock (c : CI te a v w E Q W P O S M T) (y : Int32) : CI te a v w E Q W P O (uI S 40 (a 0) y) (up2 M 35 0 y) T := by
  obtain ⟨c1, c2, c3, c4, c5, c6, c7, c8, c9, c10, c11, c12, c13⟩ := c
  exact ⟨⟨c1.1, c1.2.1, (show up2 S.2.2.2.1 40 (a 0) y 40 (a 0) = up2 M 35 0 y 35 0 by rw [up2_e, up2_e]), c1.2.2.2⟩, c2, c3, c4, c5, c6, c7, cTr.c (N := up2 M 35 0 y) c8 rfl rfl rfl rfl rfl rfl, c9, c10, c11, c12, c13⟩
theorem CI.busy (c : CI te a v w E Q W P O S M T) {x : Nat} (hx : x < 4) (y : Int32) : CI te a v w E Q W P O (uI S 33 (a (20 + x)) y) (up2 M 18 x y) T := by
  obtain ⟨c1, c2, c3, c4, c5, c6, c7, c8, c9, c10, c11, c12, c13⟩ := c
  refine ⟨c1, c2, c3, c4, c5, c6, ⟨c7.1, c7.2.1, fun p hp => ?_⟩, cTr.c (N := up2 M 18 x y) c8 rfl rfl rfl rfl rfl rfl, c9, c10, c11, c12, c13⟩
  obtain ⟨d1, d2, d3, d4, d5, d6, d7, d8⟩ := c7.2.2 p hp
  refine ⟨d1, d2, d3, d4, d5, ?_, d7, d8⟩
  show up2 S.2.2.2.1 33 (a (20 + x)) y 33 (a (20 + p)) = up2 M 18 x y 18 p
  rw [up2_s, up2_s]
  exact upd_tie (h := fun p => a (20 + p)) (fun z => c13.2.2.2.2.2.2.1 p x hp hx z) d6
/-- where an egg is: its place's number -/
def Pl (M : Nat → Nat → Int32) (lo : Nat → Nat) : Prop := (∀ k, k < (M 8 0).toNatClampNeg → lo (M 9 k).toNatClampNeg = k) ∧ (∀ k, k < (M 11 0).toNatClampNeg → lo (M 12 k).toNatClampNeg = 100 + k) ∧ (∀ k, k < 16 → ¬ M 10 k - 1 < 0 → lo (eN M k) = 200 + k) ∧ ∀ p, p < 4 → ∀ k, k < (M 19 p).toNatClampNeg → lo (trE M p k) = 300 + 6 * p + k
theorem CI.weigh (c : CI te a v w E Q W P O S M T) {e : Nat} (he : e < E) (hno : ∀ p, p < 4 → ∀ k, k < (M 19 p).toNatClampNeg → trE M p k ≠ e) (y z : Int32) : CI te a v w E Q W P O (uI (uI S 6 (w 0 e) y) 7 (w 0 e) z) (up2 (up2 M 6 e y) 7 e z) T := by
  obtain ⟨c1, c2, c3, c4, c5, c6, c7, c8, c9, c10, c11, c12, c13⟩ := c
  refine ⟨c1, c2, c3, c4, c5, c6, c7, cTr.g (N := up2 (up2 M 6 e y) 7 e z) c8 (fun p hp => ⟨rfl, fun k hk => ⟨rfl, rfl, rfl, ?_, ?_⟩⟩), c9, fun f hf => ?_, c11, c12, c13⟩
  · show upd (M 6) e y (trE M p k) = _
    exact upd_o (hno p hp k hk)
  · show upd (M 7) e z (trE M p k) = _
    exact upd_o (hno p hp k hk)
  · obtain ⟨d1, d2, d3, d4, d5, d6, d7, d8, d9⟩ := c10 f hf
    refine ⟨d1, d2, d3, d4, d5, d6, d7, ?_, ?_⟩
    · show up2 (up2 S.2.2.2.1 6 (w 0 e) y) 7 (w 0 e) z 6 (w 0 f) = upd (M 6) e y f
      rw [up2_n (by decide), up2_s]
      exact upd_tie (h := w 0) (fun z => c13.2.2.1 f e hf he z) d8
    · show up2 (up2 S.2.2.2.1 6 (w 0 e) y) 7 (w 0 e) z 7 (w 0 f) = upd (M 7) e z f
      rw [up2_s]
      exact upd_tie (f := S.2.2.2.1 7) (h := w 0) (fun z => c13.2.2.1 f e hf he z) d9
end C29
section C29b
variable {D : va_G} {ar : Nat → ClassId} {tg te mi : Nat} {S : CS}
variable {a v : Nat → Nat} {w : Nat → Nat → Nat} {E Q W P O : Nat} {M : Nat → Nat → Int32} {T : Int64}
set_option maxRecDepth 100000 in
theorem k_X4_moveLine (ci : CI te a v w E Q W P O S M T) (ok : OKM M E) (hE : E ≤ 600)  : Cn D ar (XC tg te mi) yX4_moveLine cX4_moveLine 3 none 0 0 0 0 [.ref (a 0)] (cW ar S) (fun r w9 => r = none ∧ ∃ S' : CS, w9 = cW ar S' ∧ CI te a v w E Q W P O S' (s2M (s1M M)) T) := by
  refine Cn.of (own := RX4) XC_ok (by decide) rfl (Nat.le_of_ble_eq_true rfl) (fun j C => ?_)
  have C0 := C.to
  show j _ 0 0 0 [(0, _)] []
  have hs := ci.1
  have ln := ci.2.2.2.2.2.1
  have eg := ci.2.2.2.2.2.2.2.2.2.1
  have bb := ci.2.2.2.2.2.2.2.2.2.2.2.1
  suffices key : ∀ S1 : CS, CI te a v w E Q W P O S1 (s1M M) T → j (cW ar S1) 0 0 27 [(0, .ref (a 0))] [] by
    rcases ok.ln (k := 15) hE (by decide) with z | ⟨z, z1, z2, z3⟩
    · refine r_aload_n C0 0 0 dX4_moveLine_0 rfl rfl ?_
      refine cgR_3 C0 1 hs.2.1.2.2.1 flX4_21 hs.1 dX4_moveLine_1 ?_
      refine r_bipush C0 4 15 dX4_moveLine_4 (by decide) ?_
      refine ca_ald C0 6 15 (by decide) ln.1 rfl (by rw [ln.2.1]; decide) (by rw [ln.2.1]; decide) (by rw [ln.2.2 15 (by decide), if_pos z]) dX4_moveLine_6 ?_
      refine r_astore_nN (lv' := [(0, _), (1, _)]) C0 7 1 dX4_moveLine_7 rfl rfl (by decide) rfl ?_
      refine r_aload_nN C0 8 1 dX4_moveLine_8 rfl rfl ?_
      refine r_ifnullN C0 9 27 dX4_moveLine_9 (by decide) ?_
      refine r_drop C0 ?_ (key S (by rw [show s1M M = M from if_pos (by rw [z]; decide)]; exact ci))
      simp
    · obtain ⟨b, hb4, hb⟩ := ok.2.2.2.2.2 _ z2
      have hbn : bN M (eN M 15) = b := by unfold bN; rw [hb]; exact nI_clamp (by omega)
      have d9 := bb.2.2 b hb4
      refine r_aload_n C0 0 0 dX4_moveLine_0 rfl rfl ?_
      refine cgR_3 C0 1 hs.2.1.2.2.1 flX4_21 hs.1 dX4_moveLine_1 ?_
      refine r_bipush C0 4 15 dX4_moveLine_4 (by decide) ?_
      refine ca_ald C0 6 15 (by decide) ln.1 rfl (by rw [ln.2.1]; decide) (by rw [ln.2.1]; decide) (by rw [ln.2.2 15 (by decide), if_neg z]) dX4_moveLine_6 ?_
      refine r_astore_n (lv' := [(0, _), (1, _)]) C0 7 1 dX4_moveLine_7 rfl rfl (by decide) rfl ?_
      refine r_aload_n C0 8 1 dX4_moveLine_8 rfl rfl ?_
      refine r_ifnull C0 9 dX4_moveLine_9 ?_
      refine r_aload_n C0 12 0 dX4_moveLine_12 rfl rfl ?_
      refine cgR_7 C0 13 hs.2.1.2.2.2.2.2.2 flX4_39 hs.1 dX4_moveLine_13 ?_
      refine r_aload_n C0 16 1 dX4_moveLine_16 rfl rfl ?_
      refine cgI_1 C0 17 flX4_107 (eg _ z2).1 dX4_moveLine_17 ?_
      rw [(eg _ z2).2.2.1]
      refine ca_ald C0 20 b (by decide) bb.1 hb (by rw [bb.2.1]; exact hb4) (by rw [bb.2.1]; decide) d9.1 dX4_moveLine_20 ?_
      refine r_iconst C0 21 3 dX4_moveLine_21 (by decide) ?_
      refine r_dup2 C0 22 dX4_moveLine_22 rfl rfl ?_
      refine ca_ild C0 23 3 d9.2.1 rfl (by rw [d9.2.2.1]; decide) (by rw [d9.2.2.1]; decide) dX4_moveLine_23 ?_
      rw [bb.ix hb4 (by decide)]
      refine r_iconst C0 24 1 dX4_moveLine_24 (by decide) ?_
      refine r_iadd C0 25 dX4_moveLine_25 ?_
      refine ca_ist C0 26 3 d9.2.1 rfl (by rw [d9.2.2.1]; decide) (by rw [d9.2.2.1]; decide) dX4_moveLine_26 ?_
      refine r_drop C0 ?_ (key _ (by rw [show s1M M = up2 M 15 (ix5 b 3) (M 15 (ix5 b 3) + 1) from (if_neg z1).trans (by rw [hbn]; rfl)]; exact ci.bb hb4 (by decide) _))
      simp
  intro S1 c1
  have okN : OKM (s1M M) E := ok.s1
  have fin : s2M (s1M M) = up2 (mvS (s1M M) 15) 10 0 0 := (s2M_eq _).symm
  rw [fin] at C
  generalize s1M M = N at c1 okN C
  clear ci hs ln eg bb ok
  suffices key : ∀ d, d ≤ 15 → ∀ S2 : CS, CI te a v w E Q W P O S2 (mvS N d) T → j (cW ar S2) 0 0 30 [(0, .ref (a 0)), (2, .int (nI (15 - d)))] [] by
    refine r_bipush C0 27 15 dX4_moveLine_27 (by decide) ?_
    refine r_istore_n (lv' := [(0, _), (2, _)]) C0 29 2 dX4_moveLine_29 rfl rfl (by decide) rfl ?_
    exact key 0 (Nat.zero_le _) S1 (by rw [mvS_0]; exact c1)
  refine loopUp (P := 15) (f := fun d => ∀ S2 : CS, CI te a v w E Q W P O S2 (mvS N d) T → j (cW ar S2) 0 0 30 [(0, .ref (a 0)), (2, .int (nI (15 - d)))] []) (fun d hd ih S2 c2 => ?_)
  have hs := c2.1
  have ln := c2.2.2.2.2.2.1
  have eg := c2.2.2.2.2.2.2.2.2.2.1
  refine r_iload_n C0 30 2 dX4_moveLine_30 rfl rfl ?_
  refine r_if_le C0 31 54 dX4_moveLine_31 (by decide) (fun c_31 => ?_) (fun c_31 => ?_)
  · have hge : d = 15 := Classical.byContradiction (fun q => nI_nle (n := 15 - d) (by omega) (by omega) c_31)
    subst hge
    refine r_aload_n C0 54 0 dX4_moveLine_54 rfl rfl ?_
    refine cgR_3 C0 55 hs.2.1.2.2.1 flX4_21 hs.1 dX4_moveLine_55 ?_
    refine r_iconst C0 58 0 dX4_moveLine_58 (by decide) ?_
    refine r_null C0 59 dX4_moveLine_59 ?_
    refine ca_astN C0 60 0 (by decide) ln.1 rfl (by rw [ln.2.1]; decide) (by rw [ln.2.1]; decide) dX4_moveLine_60 ?_
    refine r_vret C 61 dX4_moveLine_61 (Nat.le_refl _) (Nat.le_refl _) ?_
    exact ⟨rfl, _, rfl, c2.line rfl⟩
  · have hlt : d < 15 := Nat.lt_of_not_le (fun q => c_31 (by rw [show 15 - d = 0 by omega]; decide))
    rcases okN.ln (k := 15 - d - 1) hE (by omega) with z | ⟨z, z1, z2, z3⟩
    · refine r_aload_n C0 34 0 dX4_moveLine_34 rfl rfl ?_
      refine cgR_3 C0 35 hs.2.1.2.2.1 flX4_21 hs.1 dX4_moveLine_35 ?_
      refine r_iload_n C0 38 2 dX4_moveLine_38 rfl rfl ?_
      refine r_aload_n C0 39 0 dX4_moveLine_39 rfl rfl ?_
      refine cgR_3 C0 40 hs.2.1.2.2.1 flX4_21 hs.1 dX4_moveLine_40 ?_
      refine r_iload_n C0 43 2 dX4_moveLine_43 rfl rfl ?_
      refine r_iconst C0 44 1 dX4_moveLine_44 (by decide) ?_
      refine r_isub C0 45 dX4_moveLine_45 ?_
      refine ca_ald C0 46 (15 - d - 1) (by decide) ln.1 (nI_pr rfl (by omega)) (by rw [ln.2.1]; omega) (by rw [ln.2.1]; decide) (by rw [ln.2.2 (15 - d - 1) (by omega), mvS_r, if_pos z]) dX4_moveLine_46 ?_
      refine ca_astN C0 47 (15 - d) (by decide) ln.1 rfl (by rw [ln.2.1]; omega) (by rw [ln.2.1]; decide) dX4_moveLine_47 ?_
      refine r_iinc (lv' := [(0, _), (2, _)]) C0 48 _ dX4_moveLine_48 rfl rfl rfl (by decide) rfl ?_
      refine r_goto C0 51 30 dX4_moveLine_51 (by decide) ?_
      have h9 := ih hlt _ (by rw [← mvS_s N hlt]; exact c2.line (by rw [if_pos z]))
      rw [show 15 - (d + 1) = 15 - d - 1 by omega, ← sb_m1 (p := 15 - d) (by omega)] at h9
      exact h9
    · refine r_aload_n C0 34 0 dX4_moveLine_34 rfl rfl ?_
      refine cgR_3 C0 35 hs.2.1.2.2.1 flX4_21 hs.1 dX4_moveLine_35 ?_
      refine r_iload_n C0 38 2 dX4_moveLine_38 rfl rfl ?_
      refine r_aload_n C0 39 0 dX4_moveLine_39 rfl rfl ?_
      refine cgR_3 C0 40 hs.2.1.2.2.1 flX4_21 hs.1 dX4_moveLine_40 ?_
      refine r_iload_n C0 43 2 dX4_moveLine_43 rfl rfl ?_
      refine r_iconst C0 44 1 dX4_moveLine_44 (by decide) ?_
      refine r_isub C0 45 dX4_moveLine_45 ?_
      refine ca_ald (v := some (w 0 (eN N (15 - d - 1)))) C0 46 (15 - d - 1) (by decide) ln.1 (nI_pr rfl (by omega)) (by rw [ln.2.1]; omega) (by rw [ln.2.1]; decide) (by rw [ln.2.2 (15 - d - 1) (by omega)]; unfold eN; rw [mvS_r, if_neg z]) dX4_moveLine_46 ?_
      refine ca_astE C0 47 (15 - d) ln.1 (eg _ z2).1 rfl (by rw [ln.2.1]; omega) (by rw [ln.2.1]; decide) dX4_moveLine_47 ?_
      refine r_iinc (lv' := [(0, _), (2, _)]) C0 48 _ dX4_moveLine_48 rfl rfl rfl (by decide) rfl ?_
      refine r_goto C0 51 30 dX4_moveLine_51 (by decide) ?_
      have h9 := ih hlt _ (by rw [← mvS_s N hlt]; exact c2.line (by rw [if_neg z]))
      rw [show 15 - (d + 1) = 15 - d - 1 by omega, ← sb_m1 (p := 15 - d) (by omega)] at h9
      exact h9
set_option maxRecDepth 100000 in
theorem k_X4_weigh (ci : CI te a v w E Q W P O S M T) (ok : OKM M E) (hE : E ≤ 600) {lo : Nat → Nat} (pl : Pl M lo)  : Cn D ar (XC tg te mi) yX4_weigh cX4_weigh 2 none 0 0 0 0 [.ref (a 0)] (cW ar S) (fun r w9 => r = none ∧ ∃ S' : CS, w9 = cW ar S' ∧ CI te a v w E Q W P O S' (s3M M) T) := by
  refine Cn.of (own := RX4) XC_ok (by decide) rfl (Nat.le_of_ble_eq_true rfl) (fun j C => ?_)
  have C0 := C.to
  show j _ 0 0 0 [(0, _)] []
  have hs := ci.1
  have ln := ci.2.2.2.2.2.1
  have eg := ci.2.2.2.2.2.2.2.2.2.1
  rcases ok.ln (k := 2) hE (by decide) with z | ⟨z, z1, z2, z3⟩
  · refine r_aload_n C0 0 0 dX4_weigh_0 rfl rfl ?_
    refine cgR_3 C0 1 hs.2.1.2.2.1 flX4_21 hs.1 dX4_weigh_1 ?_
    refine r_iconst C0 4 2 dX4_weigh_4 (by decide) ?_
    refine ca_ald C0 5 2 (by decide) ln.1 rfl (by rw [ln.2.1]; decide) (by rw [ln.2.1]; decide) (by rw [ln.2.2 2 (by decide), if_pos z]) dX4_weigh_5 ?_
    refine r_astore_nN (lv' := [(0, _), (1, _)]) C0 6 1 dX4_weigh_6 rfl rfl (by decide) rfl ?_
    refine r_aload_nN C0 7 1 dX4_weigh_7 rfl rfl ?_
    refine r_ifnullN C0 8 32 dX4_weigh_8 (by decide) ?_
    refine r_vret C 32 dX4_weigh_32 (Nat.le_refl _) (Nat.le_refl _) ?_
    exact ⟨rfl, S, rfl, by rw [show s3M M = M from if_pos (by rw [z]; decide)]; exact ci⟩
  · refine r_aload_n C0 0 0 dX4_weigh_0 rfl rfl ?_
    refine cgR_3 C0 1 hs.2.1.2.2.1 flX4_21 hs.1 dX4_weigh_1 ?_
    refine r_iconst C0 4 2 dX4_weigh_4 (by decide) ?_
    refine ca_ald C0 5 2 (by decide) ln.1 rfl (by rw [ln.2.1]; decide) (by rw [ln.2.1]; decide) (by rw [ln.2.2 2 (by decide), if_neg z]) dX4_weigh_5 ?_
    refine r_astore_n (lv' := [(0, _), (1, _)]) C0 6 1 dX4_weigh_6 rfl rfl (by decide) rfl ?_
    refine r_aload_n C0 7 1 dX4_weigh_7 rfl rfl ?_
    refine r_ifnull C0 8 dX4_weigh_8 ?_
    refine r_aload_n C0 11 1 dX4_weigh_11 rfl rfl ?_
    refine r_aload_n C0 12 1 dX4_weigh_12 rfl rfl ?_
    refine cgI_2 C0 13 flX4_110 (eg _ z2).1 dX4_weigh_13 ?_
    rw [(eg _ z2).2.2.2.1]
    refine r_aload_n C0 16 0 dX4_weigh_16 rfl rfl ?_
    refine cgI_41 C0 17 flX4_75 hs.1 dX4_weigh_17 ?_
    rw [hs.2.2.2.1]
    refine r_iadd C0 20 dX4_weigh_20 ?_
    refine cpI_6 C0 21 flX4_113 (eg _ z2).1 dX4_weigh_21 ?_
    refine r_aload_n C0 24 1 dX4_weigh_24 rfl rfl ?_
    refine r_aload_n C0 25 0 dX4_weigh_25 rfl rfl ?_
    refine cgI_40 C0 26 flX4_71 hs.1 dX4_weigh_26 ?_
    rw [show (uI S 6 (w 0 (eN M 2)) (M 2 (eN M 2) + M 36 0)).2.2.2.1 40 (a 0) = M 35 0 from hs.2.2.1]
    refine cpI_7 C0 29 flX4_224 (eg _ z2).1 dX4_weigh_29 ?_
    refine r_vret C 32 dX4_weigh_32 (Nat.le_refl _) (Nat.le_refl _) ?_
    exact ⟨rfl, _, rfl, by rw [show s3M M = _ from if_neg z1]; exact ci.weigh z2 (fun p hp k hk q => by have h1 := pl.2.2.2 p hp k hk; rw [q, pl.2.2.1 2 (by decide) z1] at h1; omega) _ _⟩
end C29b
