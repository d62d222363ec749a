/-! the class: letTake -/
/-- packer p closes its tray at this tick -/
def clN (M : Nat → Nat → Int32) (p : Nat) : Prop := M 18 p ≤ 0 ∧ ¬ M 10 (8 + 2 * p) - 1 < 0 ∧ ¬ tkZ M p (eN M (8 + 2 * p)) = 0 ∧ M 19 p = 5
theorem tk1_19 {M : Nat → Nat → Int32} {p e : Nat} : tk1 M p e 19 p = M 19 p + 1 := by
  unfold tk1 in15
  rw [up2_n (by decide), up2_n (by decide), up2_e]
theorem tk1_21 {M : Nat → Nat → Int32} {p e : Nat} : tk1 M p e 21 = M 21 := by
  unfold tk1 in15
  rw [up2_n (by decide), up2_n (by decide), up2_n (by decide), up2_n (by decide), up2_n (by decide)]
section C34
variable {D : va_G} {ar : Nat → ClassId} {tg te mi : Nat} {S : CS}
variable {a v : Nat → Nat} {w : Nat → Nat → Nat} {E Q W P O : Nat} {M : Nat → Nat → Int32} {T : Int64}
set_option maxRecDepth 100000 in
theorem k_X4_letTake (ci : CI te a v w E Q W P O S M T) (cp : CapOK v) (ok : OKM M E) (hE : E ≤ 600) (h7 : ∀ e, e < E → 0 ≤ M 7 e) {p : Nat} (hp : p < 4) (mc9 ms9 : Nat) (hm : clN M p → (P < v 15 ∧ 1 ≤ mc9 ∧ 9 ≤ ms9) ∨ (2 ≤ mc9 ∧ 82 ≤ ms9))  : Cn D ar (XC tg te mi) yX4_letTake cX4_letTake 3 none 8 204 mc9 ms9 [.ref (a 0), .ref (a (20 + p))] (cW ar S) (fun r w9 => r = none ∧ ∃ (S' : CS) (v' : Nat → Nat) (w' : Nat → Nat → Nat) (P' : Nat), w9 = cW ar S' ∧ CI te a v' w' E Q W P' O S' (tkM M p) T ∧ CapOK v' ∧ (¬ clN M p ∧ P' = P ∧ v' 15 = v 15 ∨ clN M p ∧ P' = P + 1 ∧ (v' 15 = v 15 ∧ P < v 15 ∨ P = v 15 ∧ v' 15 = ncap (v 15)))) := by
  refine Cn.of (own := RX4) XC_ok (by decide) rfl (Nat.le_of_ble_eq_true rfl) (fun j C => ?_)
  have C0 := C.to
  show j _ 0 0 0 [(0, _), (1, _)] []
  have hs := ci.1
  have pr := ci.2.2.2.2.2.2.1
  have ln := ci.2.2.2.2.2.1
  have eg := ci.2.2.2.2.2.2.2.2.2.1
  have d := pr.2.2 p hp
  have hP0 := ci.2.2.2.1.1
  obtain ⟨t, ht5, ht, -⟩ := ok.2.2.2.1 p hp
  have hct : (M 19 p).toNatClampNeg = t := by rw [ht]; exact nI_clamp (by omega)
  rcases ok.ln (k := 8 + 2 * p) hE (by omega) with z | ⟨z, z1, z2, z3⟩
  · refine r_aload_n C0 0 1 dX4_letTake_0 rfl rfl ?_
    refine cgI_33 C0 1 flX4_119 d.2.1 dX4_letTake_1 ?_
    rw [d.2.2.2.2.2.1]
    refine r_if_le C0 4 18 dX4_letTake_4 (by decide) (fun c_4 => ?_) (fun c_4 => ?_)
    · refine r_aload_n C0 18 0 dX4_letTake_18 rfl rfl ?_
      refine cgR_3 C0 19 hs.2.1.2.2.1 flX4_21 hs.1 dX4_letTake_19 ?_
      refine r_aload_n C0 22 1 dX4_letTake_22 rfl rfl ?_
      refine cgI_30 C0 23 flX4_267 d.2.1 dX4_letTake_23 ?_
      rw [d.2.2.1]
      refine ca_ald C0 26 (8 + 2 * p) (by decide) ln.1 rfl (by rw [ln.2.1]; omega) (by rw [ln.2.1]; decide) (by rw [ln.2.2 (8 + 2 * p) (by omega), if_pos z]) dX4_letTake_26 ?_
      refine r_astore_nN (lv' := [(0, _), (1, _), (2, _)]) C0 27 2 dX4_letTake_27 rfl rfl (by decide) rfl ?_
      refine r_aload_nN C0 28 2 dX4_letTake_28 rfl rfl ?_
      refine r_ifnullN C0 29 41 dX4_letTake_29 (by decide) ?_
      refine r_vret C 41 dX4_letTake_41 (Nat.zero_le _) (Nat.zero_le _) ?_
      have hn : M 10 (8 + 2 * p) - 1 < 0 := by rw [z]; decide
      exact ⟨rfl, S, v, w, P, rfl, by rw [show tkM M p = M from (if_pos c_4).trans (if_pos hn)]; exact ci, cp, Or.inl ⟨fun q => q.2.1 hn, rfl, rfl⟩⟩
    · refine r_aload_n C0 7 1 dX4_letTake_7 rfl rfl ?_
      refine r_dup C0 8 dX4_letTake_8 rfl ?_
      refine cgI_33 C0 9 flX4_119 d.2.1 dX4_letTake_9 ?_
      rw [d.2.2.2.2.2.1]
      refine r_iconst C0 12 1 dX4_letTake_12 (by decide) ?_
      refine r_isub C0 13 dX4_letTake_13 ?_
      refine cpI_33 C0 14 flX4_119 d.2.1 dX4_letTake_14 ?_
      refine r_vret C 17 dX4_letTake_17 (Nat.zero_le _) (Nat.zero_le _) ?_
      exact ⟨rfl, _, v, w, P, rfl, by rw [show tkM M p = up2 M 18 p (M 18 p - 1) from if_neg c_4]; exact ci.busy hp _, cp, Or.inl ⟨fun q => c_4 q.1, rfl, rfl⟩⟩
  · refine r_aload_n C0 0 1 dX4_letTake_0 rfl rfl ?_
    refine cgI_33 C0 1 flX4_119 d.2.1 dX4_letTake_1 ?_
    rw [d.2.2.2.2.2.1]
    refine r_if_le C0 4 18 dX4_letTake_4 (by decide) (fun c_4 => ?_) (fun c_4 => ?_)
    · refine r_aload_n C0 18 0 dX4_letTake_18 rfl rfl ?_
      refine cgR_3 C0 19 hs.2.1.2.2.1 flX4_21 hs.1 dX4_letTake_19 ?_
      refine r_aload_n C0 22 1 dX4_letTake_22 rfl rfl ?_
      refine cgI_30 C0 23 flX4_267 d.2.1 dX4_letTake_23 ?_
      rw [d.2.2.1]
      refine ca_ald C0 26 (8 + 2 * p) (by decide) ln.1 rfl (by rw [ln.2.1]; omega) (by rw [ln.2.1]; decide) (by rw [ln.2.2 (8 + 2 * p) (by omega), if_neg z]) dX4_letTake_26 ?_
      refine r_astore_n (lv' := [(0, _), (1, _), (2, _)]) C0 27 2 dX4_letTake_27 rfl rfl (by decide) rfl ?_
      refine r_aload_n C0 28 2 dX4_letTake_28 rfl rfl ?_
      refine r_ifnull C0 29 dX4_letTake_29 ?_
      refine r_aload_n C0 32 0 dX4_letTake_32 rfl rfl ?_
      refine r_aload_n C0 33 1 dX4_letTake_33 rfl rfl ?_
      refine r_aload_n C0 34 2 dX4_letTake_34 rfl rfl ?_
      refine c_call (As := [.ref _, .ref _]) C0 35 2 (k_X4_takes ci hp z2) (rm_X4_takes (Nat.le_of_ble_eq_true rfl) (Nat.le_of_ble_eq_true rfl) (Nat.zero_le _) (Nat.zero_le _)) mlX4_270 im_X4_takes se_X4_takes (by decide) rfl hs.1 rfl (Nat.le_of_ble_eq_true rfl) dX4_letTake_35 ?_
      rintro _ _ ⟨rfl, rfl⟩
      refine r_if_ne C0 38 42 dX4_letTake_38 (by decide) (fun c_38 => ?_) (fun c_38 => ?_)
      · obtain ⟨hk1, hk2⟩ := tkM_1 ok hp c_4 z1 c_38
        obtain ⟨b, hb4, hb⟩ := ok.2.2.2.2.2 _ z2
        have hbn : bN M (eN M (8 + 2 * p)) = b := by unfold bN; rw [hb]; exact nI_clamp (by omega)
        have hT1 : tk1 M p (eN M (8 + 2 * p)) = up2 (up2 (up2 (up2 (up2 M 10 (8 + 2 * p) 0) 20 (6 * p + t) (nI (eN M (8 + 2 * p)))) 19 p (up2 M 10 (8 + 2 * p) 0 19 p + 1)) 18 p 2) 15 (ix5 b 4) (up2 (up2 (up2 (up2 M 10 (8 + 2 * p) 0) 20 (6 * p + t) (nI (eN M (8 + 2 * p)))) 19 p (up2 M 10 (8 + 2 * p) 0 19 p + 1)) 18 p 2 15 (ix5 b 4) + 1) := by
          unfold tk1 in15
          rw [hct, hbn, show ix5 b 4 = 12 + b from rfl, show up2 M 10 (8 + 2 * p) 0 19 p = M 19 p from rfl]
        have h19 : tk1 M p (eN M (8 + 2 * p)) 19 p = nI (t + 1) := by rw [tk1_19, ht, nI_1]
        have key3 : ∀ S5 : CS, CI te a v w E Q W P O S5 (tk1 M p (eN M (8 + 2 * p))) T → j (cW ar S5) 0 0 80 [(0, .ref (a 0)), (1, .ref (a (20 + p))), (2, .ref (w 0 (eN M (8 + 2 * p))))] [] := by
          intro S5 c5
          have d5 := c5.2.2.2.2.2.2.1.2.2 p hp
          have tr5 := (c5.2.2.2.2.2.2.2.1 p hp).1.trans h19
          refine r_aload_n C0 80 1 dX4_letTake_80 rfl rfl ?_
          refine cgR_0 C0 81 d5.2.2.2.2.2.2.1 flX4_84 d5.2.1 dX4_letTake_81 ?_
          refine cgI_21 C0 84 flX4_88 d5.2.2.2.2.2.2.2 dX4_letTake_84 ?_
          rw [tr5]
          refine r_bipush C0 87 6 dX4_letTake_87 (by decide) ?_
          refine r_icmp_lt C0 89 97 dX4_letTake_89 (by decide) (fun c_89 => ?_) (fun c_89 => ?_)
          · refine r_vret C 97 dX4_letTake_97 (Nat.zero_le _) (Nat.zero_le _) ?_
            have hn5 : ¬ M 19 p = 5 := fun q => absurd ((nI_ltI (a := t + 1) (b := 6) (by omega) (by omega)).mp c_89) (by have : t = 5 := (nI_eq (b := 5) (by omega) (by omega)).mp (ht.symm.trans q); omega)
            exact ⟨rfl, S5, v, w, P, rfl, by rw [hk1, show tk2 M p (eN M (8 + 2 * p)) = tk1 M p (eN M (8 + 2 * p)) from if_neg (fun q => hn5 (by rw [ht, nI_1] at q; have := (nI_eq (b := 6) (by omega) (by omega)).mp q; rw [ht, show t = 5 by omega]; rfl))]; exact c5, cp, Or.inl ⟨fun q => hn5 q.2.2.2, rfl, rfl⟩⟩
          · refine r_aload_n C0 92 0 dX4_letTake_92 rfl rfl ?_
            refine r_aload_n C0 93 1 dX4_letTake_93 rfl rfl ?_
            have ht55 : t = 5 := by
              have : ¬ t + 1 < 6 := fun q => c_89 (nI_lt (a := t + 1) (b := 6) q (by omega))
              omega
            have h55 : M 19 p = 5 := by rw [ht, ht55]; rfl
            have hcl : clN M p := ⟨c_4, z1, c_38, h55⟩
            have hP6 : P < 60 := Nat.lt_of_le_of_ne hP0.1 (fun q => hk2 h55 (by rw [hP0.2, q]; rfl))
            have h6 : tk1 M p (eN M (8 + 2 * p)) 19 p = nI 6 := by rw [h19, ht55]
            have htk : tkM M p = pkM (tk1 M p (eN M (8 + 2 * p))) p P := by
              rw [hk1]
              unfold tk2
              rw [if_pos (by rw [h55]; rfl), show (M 21 0).toNatClampNeg = P by rw [hP0.2]; exact nI_clamp (by omega)]
            rcases hm hcl with ⟨hg, hm1, hm2⟩ | ⟨hm1, hm2⟩
            · refine c_call (As := [.ref _]) C0 94 1 (k_X4_closeTray0 c5 cp hp hP6 h6 hg) (rm_X4_closeTray (Nat.le_of_ble_eq_true rfl) (Nat.le_of_ble_eq_true rfl) (show 0 + 1 ≤ mc9 by omega) (show 0 + 9 ≤ ms9 by omega)) mlX4_277 im_X4_closeTray se_X4_closeTray (by decide) rfl c5.1.1 rfl (Nat.le_of_ble_eq_true rfl) dX4_letTake_94 ?_
              rintro _ _ ⟨rfl, S6, v6, w6, rfl, c6, cp6, vv6⟩
              refine r_vret C 97 dX4_letTake_97 (show 0 + 1 ≤ mc9 by omega) (show 0 + 9 ≤ ms9 by omega) ?_
              exact ⟨rfl, S6, v6, w6, P + 1, rfl, by rw [htk]; exact c6, cp6, Or.inr ⟨hcl, rfl, vv6⟩⟩
            · refine c_call (As := [.ref _]) C0 94 1 (k_X4_closeTray1 c5 cp hp hP6 h6) (rm_X4_closeTray (Nat.le_of_ble_eq_true rfl) (Nat.le_of_ble_eq_true rfl) (show 0 + 2 ≤ mc9 by omega) (show 0 + 82 ≤ ms9 by omega)) mlX4_277 im_X4_closeTray se_X4_closeTray (by decide) rfl c5.1.1 rfl (Nat.le_of_ble_eq_true rfl) dX4_letTake_94 ?_
              rintro _ _ ⟨rfl, S6, v6, w6, rfl, c6, cp6, vv6⟩
              refine r_vret C 97 dX4_letTake_97 (show 0 + 2 ≤ mc9 by omega) (show 0 + 82 ≤ ms9 by omega) ?_
              exact ⟨rfl, S6, v6, w6, P + 1, rfl, by rw [htk]; exact c6, cp6, Or.inr ⟨hcl, rfl, vv6⟩⟩
        have key2 : ∀ S3 : CS, CI te a v w E Q W P O S3 (up2 (up2 (up2 M 10 (8 + 2 * p) 0) 20 (6 * p + t) (nI (eN M (8 + 2 * p)))) 19 p (up2 M 10 (8 + 2 * p) 0 19 p + 1)) T → j (cW ar S3) 0 0 60 [(0, .ref (a 0)), (1, .ref (a (20 + p))), (2, .ref (w 0 (eN M (8 + 2 * p))))] [] := by
          intro S3 c3
          have c4 := c3.busy hp 2
          have d4 := c4.2.2.2.2.2.2.1.2.2 p hp
          have eg4 := c4.2.2.2.2.2.2.2.2.2.1
          have bb4 := c4.2.2.2.2.2.2.2.2.2.2.2.1
          have d9 := bb4.2.2 b hb4
          have hb9 : up2 (up2 (up2 (up2 M 10 (8 + 2 * p) 0) 20 (6 * p + t) (nI (eN M (8 + 2 * p)))) 19 p (up2 M 10 (8 + 2 * p) 0 19 p + 1)) 18 p 2 1 (eN M (8 + 2 * p)) = nI b := hb
          refine r_aload_n C0 60 1 dX4_letTake_60 rfl rfl ?_
          refine r_iconst C0 61 2 dX4_letTake_61 (by decide) ?_
          refine cpI_33 C0 62 flX4_119 d4.2.1 dX4_letTake_62 ?_
          refine r_aload_n C0 65 0 dX4_letTake_65 rfl rfl ?_
          refine cgR_7 C0 66 c4.1.2.1.2.2.2.2.2.2 flX4_39 c4.1.1 dX4_letTake_66 ?_
          refine r_aload_n C0 69 2 dX4_letTake_69 rfl rfl ?_
          refine cgI_1 C0 70 flX4_107 (eg4 _ z2).1 dX4_letTake_70 ?_
          rw [(eg4 _ z2).2.2.1]
          refine ca_ald C0 73 b (by decide) bb4.1 hb9 (by rw [bb4.2.1]; exact hb4) (by rw [bb4.2.1]; decide) d9.1 dX4_letTake_73 ?_
          refine r_iconst C0 74 4 dX4_letTake_74 (by decide) ?_
          refine r_dup2 C0 75 dX4_letTake_75 rfl rfl ?_
          refine ca_ild C0 76 4 d9.2.1 rfl (by rw [d9.2.2.1]; decide) (by rw [d9.2.2.1]; decide) dX4_letTake_76 ?_
          rw [bb4.ix hb4 (by decide)]
          refine r_iconst C0 77 1 dX4_letTake_77 (by decide) ?_
          refine r_iadd C0 78 dX4_letTake_78 ?_
          refine ca_ist C0 79 4 d9.2.1 rfl (by rw [d9.2.2.1]; decide) (by rw [d9.2.2.1]; decide) dX4_letTake_79 ?_
          exact key3 _ (by rw [hT1]; exact c4.bb hb4 (by decide) _)
        have c2 := ci.line (x := 8 + 2 * p) (y := 0) (o := none) rfl
        refine r_aload_n C0 42 0 dX4_letTake_42 rfl rfl ?_
        refine cgR_3 C0 43 hs.2.1.2.2.1 flX4_21 hs.1 dX4_letTake_43 ?_
        refine r_aload_n C0 46 1 dX4_letTake_46 rfl rfl ?_
        refine cgI_30 C0 47 flX4_267 d.2.1 dX4_letTake_47 ?_
        rw [d.2.2.1]
        refine r_null C0 50 dX4_letTake_50 ?_
        refine ca_astN C0 51 (8 + 2 * p) (by decide) ln.1 rfl (by rw [ln.2.1]; omega) (by rw [ln.2.1]; decide) dX4_letTake_51 ?_
        refine r_aload_n C0 52 1 dX4_letTake_52 rfl rfl ?_
        refine cgR_0 C0 53 d.2.2.2.2.2.2.1 flX4_84 d.2.1 dX4_letTake_53 ?_
        refine r_aload_n C0 56 2 dX4_letTake_56 rfl rfl ?_
        refine c_call (As := [.ref _]) C0 57 1 (k_X2_lay XC_ok d.2.2.2.2.2.2.2 (eg _ z2).1) (rm_X2_lay (Nat.le_of_ble_eq_true rfl) (Nat.le_of_ble_eq_true rfl) (Nat.zero_le _) (Nat.zero_le _)) mlX4_274 im_X2_lay se_X2_lay (by decide) rfl d.2.2.2.2.2.2.2 rfl (Nat.le_of_ble_eq_true rfl) dX4_letTake_57 ?_
        rintro _ _ ⟨rfl, rfl⟩
        exact key2 _ (c2.lay ok.z hE hp z2 ht ht5 (h7 _ z2))
      · refine r_vret C 41 dX4_letTake_41 (Nat.zero_le _) (Nat.zero_le _) ?_
        exact ⟨rfl, S, v, w, P, rfl, by rw [tkM_0 ok hp c_4 z1 c_38]; exact ci, cp, Or.inl ⟨fun q => q.2.2.1 c_38, rfl, rfl⟩⟩
    · refine r_aload_n C0 7 1 dX4_letTake_7 rfl rfl ?_
      refine r_dup C0 8 dX4_letTake_8 rfl ?_
      refine cgI_33 C0 9 flX4_119 d.2.1 dX4_letTake_9 ?_
      rw [d.2.2.2.2.2.1]
      refine r_iconst C0 12 1 dX4_letTake_12 (by decide) ?_
      refine r_isub C0 13 dX4_letTake_13 ?_
      refine cpI_33 C0 14 flX4_119 d.2.1 dX4_letTake_14 ?_
      refine r_vret C 17 dX4_letTake_17 (Nat.zero_le _) (Nat.zero_le _) ?_
      exact ⟨rfl, _, v, w, P, rfl, by rw [show tkM M p = up2 M 18 p (M 18 p - 1) from if_neg c_4]; exact ci.busy hp _, cp, Or.inl ⟨fun q => c_4 q.1, rfl, rfl⟩⟩
end C34
