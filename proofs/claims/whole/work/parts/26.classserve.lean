/-! the class: sellTo, serve -/
/-- the orders' numbers: 0 .. 9 packs -/
def OrOK (M : Nat → Nat → Int32) (O : Nat) : Prop := ∀ o, o < O → ∃ m : Nat, m ≤ 9 ∧ M 32 o = nI m
theorem selN_sd {M : Nat → Nat → Int32} {g o lf sd : Int32} : ∀ p, selN M g o lf sd p = ((selN M g o lf 0 p).1, (selN M g o lf 0 p).2.1, sd + (selN M g o lf 0 p).2.2)
  | 0 => by
    show (M, lf, sd) = (M, lf, sd + 0)
    simp
  | p + 1 => by
    show seq1 M g o p (selN M g o lf sd p) = ((seq1 M g o p (selN M g o lf 0 p)).1, (seq1 M g o p (selN M g o lf 0 p)).2.1, sd + (seq1 M g o p (selN M g o lf 0 p)).2.2)
    rw [selN_sd p]
    generalize selN M g o lf 0 p = s
    unfold seq1
    by_cases h1 : s.2.1 ≤ 0
    · simp only [if_pos h1]
    · simp only [if_neg h1]
      by_cases h2 : s.1 22 p = g
      · simp only [if_pos h2]
        by_cases h3 : isFr s.1 p = 0
        · simp only [if_pos h3]
        · simp only [if_neg h3, Int32.add_assoc]
      · simp only [if_neg h2]
theorem selN_c {M : Nat → Nat → Int32} {g o : Int32} {m : Nat} (hm : m ≤ 9) : ∀ p, ∃ c : Nat, c ≤ m ∧ (selN M g o (nI m) 0 p).2.1 = nI (m - c) ∧ (selN M g o (nI m) 0 p).2.2 = nI c
  | 0 => ⟨0, by omega, rfl, rfl⟩
  | p + 1 => by
    obtain ⟨c, hc, e1, e2⟩ := selN_c hm p
    show ∃ c : Nat, c ≤ m ∧ (seq1 M g o p (selN M g o (nI m) 0 p)).2.1 = nI (m - c) ∧ (seq1 M g o p (selN M g o (nI m) 0 p)).2.2 = nI c
    unfold seq1
    split
    · exact ⟨c, hc, e1, e2⟩
    · rename_i h1
      split
      · split
        · exact ⟨c, hc, e1, e2⟩
        · have hlt : c < m := Nat.lt_of_le_of_ne hc (fun q => h1 (by rw [e1, q, Nat.sub_self]; decide))
          refine ⟨c + 1, by omega, ?_, ?_⟩
          · show (selN M g o (nI m) 0 p).2.1 + -1 = _
            rw [e1, show m - (c + 1) = m - c - 1 by omega]
            exact sb_m1 (by omega)
          · show (selN M g o (nI m) 0 p).2.2 + 1 = _
            rw [e2, nI_1]
      · exact ⟨c, hc, e1, e2⟩
section C26
variable {te : Nat} {S : CS} {a v : Nat → Nat} {w : Nat → Nat → Nat} {E Q W P O : Nat} {M : Nat → Nat → Int32} {T : Int64}
theorem CI.sold (ci : CI te a v w E Q W P O S M T) {x : Nat} (hx : x < P) (y : Int32) : CI te a v w E Q W P O (uI S 27 (w 1 x) y) (up2 M 28 x y) T := by
  obtain ⟨c1, c2, c3, c4, c5, c6, c7, c8, c9, c10, c11, c12, c13⟩ := ci
  refine ⟨c1, c2, c3, c4, c5, c6, c7, fun p hp => ?_, fun i hi => ?_, c10, c11, c12, c13⟩
  · obtain ⟨d1, d2, d3, d4, d5, d6, d7, d8⟩ := (cTr.c (N := up2 M 28 x y) c8 rfl rfl rfl rfl rfl rfl) p hp
    refine ⟨d1, d2, d3, d4, d5, d6, ?_, d8⟩
    show up2 S.2.2.2.1 27 (w 1 x) y 27 (w 2 p) = -9
    rw [up2_s, upd_o (fun z => c13.2.2.2.2.2.1 x p hx hp z.symm)]
    exact d7
  · obtain ⟨d1, d2, d3, d4, d5, d6, d7, d8, d9⟩ := c9 i hi
    refine ⟨d1, d2, d3, d4, d5, d6, d7, ?_, d9⟩
    show up2 S.2.2.2.1 27 (w 1 x) y 27 (w 1 i) = up2 M 28 x y 28 i
    rw [up2_s, up2_s]
    exact upd_tie (h := w 1) (fun z => c13.2.2.2.1 i x hi hx z) d8
theorem CI.served (ci : CI te a v w E Q W P O S M T) {x : Nat} (hx : x < O) (y : Int32) : CI te a v w E Q W P O (uI S 13 (w 3 x) y) (up2 M 34 x y) T := by
  obtain ⟨c1, c2, c3, c4, c5, c6, c7, c8, c9, c10, c11, c12, c13⟩ := ci
  refine ⟨c1, c2, c3, c4, c5, c6, c7, cTr.c (N := up2 M 34 x y) c8 rfl rfl rfl rfl rfl rfl, c9, c10, fun i hi => ?_, c12, c13⟩
  obtain ⟨d1, d2, d3, d4, d5⟩ := c11 i hi
  refine ⟨d1, d2, d3, d4, ?_⟩
  show up2 S.2.2.2.1 13 (w 3 x) y 13 (w 3 i) = up2 M 34 x y 34 i
  rw [up2_s, up2_s]
  exact upd_tie (h := w 3) (fun z => c13.2.2.2.2.2.2.2.2 i x hi hx z) d5
end C26
section C26b
variable {D : va_G} {ar : Nat → ClassId} {tg te mi : Nat} {S : CS}
variable {a v : Nat → Nat} {w : Nat → Nat → Nat} {E Q W P O : Nat} {M : Nat → Nat → Int32} {T : Int64}
set_option maxRecDepth 100000 in
theorem k_X4_sellTo (ci : CI te a v w E Q W P O S M T) (oro : OrOK M O) {o : Nat} (ho : o < O)  : Cn D ar (XC tg te mi) yX4_sellTo cX4_sellTo 6 (some .int) 3 64 0 0 [.ref (a 0), .int (nI o)] (cW ar S) (fun r w9 => r = some (.int (selN M (M 31 o) (nI o) (M 32 o) 0 P).2.2) ∧ ∃ S', w9 = cW ar S' ∧ CI te a v w E Q W P O S' (up2 (selN M (M 31 o) (nI o) (M 32 o) 0 P).1 34 o 1) T) := by
  refine Cn.of (own := RX4) XC_ok (by decide) rfl (Nat.le_of_ble_eq_true rfl) (fun j C => ?_)
  have C0 := C.to
  show j _ 0 0 0 [(0, _), (1, _)] []
  have hs := ci.1
  have pk := ci.2.2.2.1
  have pa := ci.2.2.2.2.2.2.2.2.1
  have pr := ci.2.2.2.2.2.2.1
  have tr := ci.2.2.2.2.2.2.2.1
  have od := ci.2.2.2.2.1
  have oo := ci.2.2.2.2.2.2.2.2.2.2.1
  have hP6 := pk.1.1
  obtain ⟨m, hm, em⟩ := oro o ho
  have hO6 := od.1.1
  refine r_aload_n C0 0 0 dX4_sellTo_0 rfl rfl ?_
  refine cgR_6 C0 1 hs.2.1.2.2.2.2.2.1 flX4_34 hs.1 dX4_sellTo_1 ?_
  refine r_iload_n C0 4 1 dX4_sellTo_4 rfl rfl ?_
  refine c_call (As := [.int _]) C0 5 1 (k_Jx4a65c_get_915e3 XC_ok od.2 ho) (rm_Jx4a65c_get_915e3 (by decide) (by decide) (Nat.le_refl _) (Nat.le_refl _)) mlX4_137 im_Jx4a65c_get_915e3 se_Jx4a65c_get_915e3 (by decide) rfl od.2.1 rfl (Nat.le_of_ble_eq_true rfl) dX4_sellTo_5 ?_
  rintro _ _ ⟨rfl, rfl⟩
  refine ca_cast C0 8 (by decide) rfl clX4_163 (oo o ho).1 dX4_sellTo_8 ?_
  refine r_astore_n (lv' := [(0, _), (1, _), (2, _)]) C0 11 2 dX4_sellTo_11 rfl rfl (by decide) rfl ?_
  refine r_iconst C0 12 0 dX4_sellTo_12 (by decide) ?_
  refine r_istore_n (lv' := [(0, _), (1, _), (2, _), (3, _)]) C0 13 3 dX4_sellTo_13 rfl rfl (by decide) rfl ?_
  refine r_iconst C0 14 0 dX4_sellTo_14 (by decide) ?_
  refine r_istore (lv' := [(0, _), (1, _), (2, _), (3, _), (4, _)]) C0 15 dX4_sellTo_15 rfl (by decide) rfl ?_
  have h78 : ∀ S2 : CS, CI te a v w E Q W P O S2 (selN M (M 31 o) (nI o) (M 32 o) 0 P).1 T → j (cW ar S2) 0 0 78 [(0, .ref (a 0)), (1, .int (nI o)), (2, .ref (w 3 o)), (3, .int (selN M (M 31 o) (nI o) (M 32 o) 0 P).2.2)] [] := by
    intro S2 ci2
    have oo2 := ci2.2.2.2.2.2.2.2.2.2.2.1
    refine r_aload_n C0 78 2 dX4_sellTo_78 rfl rfl ?_
    refine r_iconst C0 79 1 dX4_sellTo_79 (by decide) ?_
    refine cpI_13 C0 80 (Or.inr rfl) flX4_188 (oo2 o ho).1 dX4_sellTo_80 ?_
    refine r_iload_n C0 83 3 dX4_sellTo_83 rfl rfl ?_
    refine r_iret C 84 dX4_sellTo_84 (Nat.le_refl _) (Nat.le_refl _) ?_
    exact ⟨rfl, _, rfl, ci2.served ho 1⟩
  suffices key : ∀ i, i ≤ P → ∀ S2 : CS, CI te a v w E Q W P O S2 (selN M (M 31 o) (nI o) (M 32 o) 0 i).1 T → j (cW ar S2) 0 0 17 [(0, .ref (a 0)), (1, .int (nI o)), (2, .ref (w 3 o)), (3, .int (selN M (M 31 o) (nI o) (M 32 o) 0 i).2.2), (4, .int (nI i))] [] from key 0 (Nat.zero_le _) S ci
  refine loopUp (P := P) (f := fun i => ∀ S2 : CS, CI te a v w E Q W P O S2 (selN M (M 31 o) (nI o) (M 32 o) 0 i).1 T → j (cW ar S2) 0 0 17 [(0, .ref (a 0)), (1, .int (nI o)), (2, .ref (w 3 o)), (3, .int (selN M (M 31 o) (nI o) (M 32 o) 0 i).2.2), (4, .int (nI i))] []) (fun i hi ih S2 ci2 => ?_)
  have hs := ci2.1
  have pk := ci2.2.2.2.1
  have pa := ci2.2.2.2.2.2.2.2.2.1
  have oo := ci2.2.2.2.2.2.2.2.2.2.2.1
  have h32 : (selN M (M 31 o) (nI o) (M 32 o) 0 i).1 32 o = M 32 o := by rw [selN_n (by decide)]
  have h31 : (selN M (M 31 o) (nI o) (M 32 o) 0 i).1 31 o = M 31 o := by rw [selN_n (by decide)]
  obtain ⟨c, hc, ec1, ec2⟩ := selN_c (M := M) (g := M 31 o) (o := nI o) hm i
  rw [← em] at ec1 ec2
  refine r_iload C0 17 dX4_sellTo_17 rfl ?_
  refine r_aload_n C0 19 0 dX4_sellTo_19 rfl rfl ?_
  refine cgR_5 C0 20 hs.2.1.2.2.2.2.1 flX4_31 hs.1 dX4_sellTo_20 ?_
  refine c_call (As := []) C0 23 0 (k_Jx4a65c_size_8abf5 XC_ok pk.2.1) (rm_Jx4a65c_size_8abf5 (by decide) (by decide) (Nat.le_refl _) (Nat.le_refl _)) mlX4_53 im_Jx4a65c_size_8abf5 se_Jx4a65c_size_8abf5 (by decide) rfl pk.2.1 rfl (Nat.le_of_ble_eq_true rfl) dX4_sellTo_23 ?_
  rintro _ _ ⟨rfl, rfl⟩
  rw [pk.2.2.1]
  refine r_icmp_ge C0 26 78 dX4_sellTo_26 (by decide) (fun c_26 => ?_) (fun c_26 => ?_)
  · have hge : P ≤ i := (nI_leI (by omega) (by omega)).mp c_26
    have e8 : i = P := by omega
    subst e8
    refine r_drop C0 ?_ (h78 S2 ci2)
    simp
  · have hlt : i < P := Nat.lt_of_not_le (fun q => c_26 (nI_le q (by omega)))
    have d := pa i hlt
    refine r_iload_n C0 29 3 dX4_sellTo_29 rfl rfl ?_
    refine r_aload_n C0 30 2 dX4_sellTo_30 rfl rfl ?_
    refine cgI_11 C0 31 flX4_182 (oo o ho).1 dX4_sellTo_31 ?_
    rw [(oo o ho).2.2.1, h32]
    refine r_icmp_ge C0 34 78 dX4_sellTo_34 (by decide) (fun c_34 => ?_) (fun c_34 => ?_)
    · have hz : (selN M (M 31 o) (nI o) (M 32 o) 0 i).2.1 ≤ 0 := by
        rw [ec1]
        rw [ec2, em] at c_34
        have := (nI_leI (a := m) (b := c) (by omega) (by omega)).mp c_34
        rw [show m - c = 0 by omega]
        decide
      have e8 := selN_stop hz (P - i)
      rw [show i + (P - i) = P by omega] at e8
      rw [← e8] at ci2 ⊢
      refine r_drop C0 ?_ (h78 S2 ci2)
      simp
    · have hnz : ¬ (selN M (M 31 o) (nI o) (M 32 o) 0 i).2.1 ≤ 0 := by
        rw [ec1]
        rw [ec2, em] at c_34
        have : ¬ m ≤ c := fun q => c_34 (nI_le q (by omega))
        exact nI_nle (by omega) (by omega)
      refine r_aload_n C0 37 0 dX4_sellTo_37 rfl rfl ?_
      refine cgR_5 C0 38 hs.2.1.2.2.2.2.1 flX4_31 hs.1 dX4_sellTo_38 ?_
      refine r_iload C0 41 dX4_sellTo_41 rfl ?_
      refine c_call (As := [.int _]) C0 43 1 (k_Jx4a65c_get_915e3 XC_ok pk.2 hlt) (rm_Jx4a65c_get_915e3 (by decide) (by decide) (Nat.le_refl _) (Nat.le_refl _)) mlX4_137 im_Jx4a65c_get_915e3 se_Jx4a65c_get_915e3 (by decide) rfl pk.2.1 rfl (Nat.le_of_ble_eq_true rfl) dX4_sellTo_43 ?_
      rintro _ _ ⟨rfl, rfl⟩
      refine ca_cast C0 46 (by decide) rfl clX4_89 d.1 dX4_sellTo_46 ?_
      refine r_astore (lv' := [(0, _), (1, _), (2, _), (3, _), (4, _), (5, _)]) C0 49 dX4_sellTo_49 rfl (by decide) rfl ?_
      refine r_aload C0 51 dX4_sellTo_51 rfl ?_
      refine r_aload_n C0 53 2 dX4_sellTo_53 rfl rfl ?_
      refine cgI_10 C0 54 flX4_181 (oo o ho).1 dX4_sellTo_54 ?_
      rw [(oo o ho).2.1, h31]
      refine c_call (As := [.int _]) C0 57 1 (k_X2_isFreeOf XC_ok d.1 _) (rm_X2_isFreeOf (by decide) (by decide) (Nat.le_refl _) (Nat.le_refl _)) mlX4_160 im_X2_isFreeOf se_X2_isFreeOf (by decide) rfl d.1 rfl (Nat.le_of_ble_eq_true rfl) dX4_sellTo_57 ?_
      rintro _ _ ⟨rfl, rfl⟩
      rw [ifo_fr1 pa hlt]
      refine r_if_eq C0 60 72 dX4_sellTo_60 (by decide) (fun c_60 => ?_) (fun c_60 => ?_)
      · refine r_iinc (lv' := [(0, _), (1, _), (2, _), (3, _), (4, _), (5, _)]) C0 72 _ dX4_sellTo_72 rfl rfl rfl (by decide) rfl ?_
        refine r_goto C0 75 17 dX4_sellTo_75 (by decide) ?_
        have e9 : selN M (M 31 o) (nI o) (M 32 o) 0 (i + 1) = (selN M (M 31 o) (nI o) (M 32 o) 0 i) := by
          show seq1 _ _ _ i (selN M (M 31 o) (nI o) (M 32 o) 0 i) = _
          unfold seq1
          rw [if_neg hnz]
          have c6 := c_60
          unfold fr1 at c6
          split at c6
          · rename_i q1
            rw [if_pos q1]
            split at c6
            · rename_i q2; rw [if_pos q2]
            · exact absurd c6 (by decide)
          · rename_i q1; rw [if_neg q1]
        have h9 := ih hlt S2 (by rw [e9]; exact ci2)
        rw [e9, ← nI_1 i] at h9
        refine r_drop C0 ?_ h9
        simp
      · refine r_aload C0 63 dX4_sellTo_63 rfl ?_
        refine r_iload_n C0 65 1 dX4_sellTo_65 rfl rfl ?_
        refine cpI_27 C0 66 flX4_148 d.1 dX4_sellTo_66 ?_
        refine r_iinc (lv' := [(0, _), (1, _), (2, _), (3, _), (4, _), (5, _)]) C0 69 _ dX4_sellTo_69 rfl rfl rfl (by decide) rfl ?_
        refine r_iinc (lv' := [(0, _), (1, _), (2, _), (3, _), (4, _), (5, _)]) C0 72 _ dX4_sellTo_72 rfl rfl rfl (by decide) rfl ?_
        refine r_goto C0 75 17 dX4_sellTo_75 (by decide) ?_
        have e9 : selN M (M 31 o) (nI o) (M 32 o) 0 (i + 1) = (up2 (selN M (M 31 o) (nI o) (M 32 o) 0 i).1 28 i (nI o), (selN M (M 31 o) (nI o) (M 32 o) 0 i).2.1 + -1, (selN M (M 31 o) (nI o) (M 32 o) 0 i).2.2 + 1) := by
          show seq1 _ _ _ i (selN M (M 31 o) (nI o) (M 32 o) 0 i) = _
          unfold seq1
          rw [if_neg hnz]
          have c6 := c_60
          unfold fr1 at c6
          split at c6
          · rename_i q1
            rw [if_pos q1]
            split at c6
            · exact absurd rfl c6
            · rename_i q2; rw [if_neg q2]
          · exact absurd rfl c6
        have h9 := ih hlt _ (by rw [e9]; exact ci2.sold hlt (nI o))
        rw [e9, ← nI_1 i] at h9
        refine r_drop C0 ?_ h9
        simp [show Int32.ofInt 1 = (1 : Int32) from rfl]
set_option maxRecDepth 100000 in
theorem k_X4_serve (ci : CI te a v w E Q W P O S M T) (oro : OrOK M O)  : Cn D ar (XC tg te mi) yX4_serve cX4_serve 4 (some .int) 6 138 1 6 [.ref (a 0)] (cW ar S) (fun r w9 => r = some (.int (srvA M P O).2) ∧ ∃ S', w9 = cW ar S' ∧ CI te a v w E Q W P O S' (srvA M P O).1 T) := by
  refine Cn.of (own := RX4) XC_ok (by decide) rfl (Nat.le_of_ble_eq_true rfl) (fun j C => ?_)
  have C0 := C.to
  show j _ 0 0 0 [(0, _)] []
  have hs := ci.1
  have pk := ci.2.2.2.1
  have pa := ci.2.2.2.2.2.2.2.2.1
  have pr := ci.2.2.2.2.2.2.1
  have tr := ci.2.2.2.2.2.2.2.1
  have od := ci.2.2.2.2.1
  have oo := ci.2.2.2.2.2.2.2.2.2.2.1
  have hO6 := od.1.1
  refine r_aload_n C0 0 0 dX4_serve_0 rfl rfl ?_
  refine c_call (As := []) C0 1 0 (k_X4_bestSet ci) (rm_X4_bestSet (by decide) (by decide) (Nat.le_refl _) (Nat.le_refl _)) mlX4_168 im_X4_bestSet se_X4_bestSet (by decide) rfl hs.1 rfl (Nat.le_of_ble_eq_true rfl) dX4_serve_1 ?_
  rintro _ _ ⟨rfl, S', rfl, hx⟩
  refine r_istore_n (lv' := [(0, _), (1, _)]) C0 4 1 dX4_serve_4 rfl rfl (by decide) rfl ?_
  refine r_iconst C0 5 0 dX4_serve_5 (by decide) ?_
  refine r_istore_n (lv' := [(0, _), (1, _), (2, _)]) C0 6 2 dX4_serve_6 rfl rfl (by decide) rfl ?_
  refine r_iconst C0 7 0 dX4_serve_7 (by decide) ?_
  refine r_istore_n (lv' := [(0, _), (1, _), (2, _), (3, _)]) C0 8 3 dX4_serve_8 rfl rfl (by decide) rfl ?_
  have hgoal : srvA M P O = serN M (bestS M P O) P O := rfl
  generalize bestS M P O = z at hgoal ⊢
  refine r_widen C0 1 6 (by decide) (by decide) ?_
  suffices key : ∀ i, i ≤ O → ∀ S2 : CS, CI te a v w E Q W P O S2 (serN M z P i).1 T → j (cW ar S2) 1 6 9 [(0, .ref (a 0)), (1, .int z), (2, .int (serN M z P i).2), (3, .int (nI i))] [] from key 0 (Nat.zero_le _) S' (hx.ci ci)
  refine loopUp (P := O) (f := fun i => ∀ S2 : CS, CI te a v w E Q W P O S2 (serN M z P i).1 T → j (cW ar S2) 1 6 9 [(0, .ref (a 0)), (1, .int z), (2, .int (serN M z P i).2), (3, .int (nI i))] []) (fun i hi ih S2 ci2 => ?_)
  have hs := ci2.1
  have od := ci2.2.2.2.2.1
  have oro2 : OrOK (serN M z P i).1 O := by
    intro o ho
    rw [serN_n (by decide) (by decide)]
    exact oro o ho
  refine r_iload_n C0 9 3 dX4_serve_9 rfl rfl ?_
  refine r_aload_n C0 10 0 dX4_serve_10 rfl rfl ?_
  refine cgR_6 C0 11 hs.2.1.2.2.2.2.2.1 flX4_34 hs.1 dX4_serve_11 ?_
  refine c_call (As := []) C0 14 0 (k_Jx4a65c_size_8abf5 XC_ok od.2.1) (rm_Jx4a65c_size_8abf5 (by decide) (by decide) (Nat.le_of_ble_eq_true rfl) (Nat.le_of_ble_eq_true rfl)) mlX4_53 im_Jx4a65c_size_8abf5 se_Jx4a65c_size_8abf5 (by decide) rfl od.2.1 rfl (Nat.le_of_ble_eq_true rfl) dX4_serve_14 ?_
  rintro _ _ ⟨rfl, rfl⟩
  rw [od.2.2.1]
  refine r_icmp_ge C0 17 42 dX4_serve_17 (by decide) (fun c_17 => ?_) (fun c_17 => ?_)
  · have hge : O ≤ i := (nI_leI (by omega) (by omega)).mp c_17
    refine r_iload_n C0 42 2 dX4_serve_42 rfl rfl ?_
    refine r_iret C 43 dX4_serve_43 (Nat.le_refl _) (Nat.le_refl _) ?_
    have e : i = O := by omega
    subst e
    rw [hgoal]
    exact ⟨rfl, S2, rfl, ci2⟩
  · have hlt : i < O := Nat.lt_of_not_le (fun q => c_17 (nI_le q (by omega)))
    refine r_iload_n C0 20 1 dX4_serve_20 rfl rfl ?_
    refine r_iload_n C0 21 3 dX4_serve_21 rfl rfl ?_
    refine s_call (As := [.int _, .int _]) C0 22 2 (k_X4_hasBit XC_ok _ _ _) (rm_X4_hasBit (by decide) (by decide) (Nat.le_of_ble_eq_true rfl) (Nat.le_of_ble_eq_true rfl)) mlX4_174 st_X4_hasBit rfl (Nat.le_of_ble_eq_true rfl) dX4_serve_22 ?_
    rintro _ _ ⟨rfl, rfl⟩
    refine r_if_eq C0 25 36 dX4_serve_25 (by decide) (fun c_25 => ?_) (fun c_25 => ?_)
    · refine r_iinc (lv' := [(0, _), (1, _), (2, _), (3, _)]) C0 36 _ dX4_serve_36 rfl rfl rfl (by decide) rfl ?_
      refine r_goto C0 39 9 dX4_serve_39 (by decide) ?_
      have e9 : serN M z P (i + 1) = serN M z P i := by
        show (if bitN z i = 1 then _ else _ : (Nat → Nat → Int32) × Int32) = _
        rw [if_neg (hb_0 c_25)]
      have h9 := ih hlt S2 (by rw [e9]; exact ci2)
      rw [e9, ← nI_1 i] at h9
      exact h9
    · refine r_iload_n C0 28 2 dX4_serve_28 rfl rfl ?_
      refine r_aload_n C0 29 0 dX4_serve_29 rfl rfl ?_
      refine r_iload_n C0 30 3 dX4_serve_30 rfl rfl ?_
      refine c_call (As := [.int _]) C0 31 1 (k_X4_sellTo ci2 oro2 hlt) (rm_X4_sellTo (by decide) (by decide) (Nat.le_of_ble_eq_true rfl) (Nat.le_of_ble_eq_true rfl)) mlX4_178 im_X4_sellTo se_X4_sellTo (by decide) rfl hs.1 rfl (Nat.le_of_ble_eq_true rfl) dX4_serve_31 ?_
      rintro _ _ ⟨rfl, S3, rfl, ci3⟩
      refine r_iadd C0 34 dX4_serve_34 ?_
      refine r_istore_n (lv' := [(0, _), (1, _), (2, _), (3, _)]) C0 35 2 dX4_serve_35 rfl rfl (by decide) rfl ?_
      refine r_iinc (lv' := [(0, _), (1, _), (2, _), (3, _)]) C0 36 _ dX4_serve_36 rfl rfl rfl (by decide) rfl ?_
      refine r_goto C0 39 9 dX4_serve_39 (by decide) ?_
      have e9 : serN M z P (i + 1) = (up2 (selN (serN M z P i).1 ((serN M z P i).1 31 i) (nI i) ((serN M z P i).1 32 i) 0 P).1 34 i 1, (serN M z P i).2 + (selN (serN M z P i).1 ((serN M z P i).1 31 i) (nI i) ((serN M z P i).1 32 i) 0 P).2.2) := by
        show (if bitN z i = 1 then _ else _ : (Nat → Nat → Int32) × Int32) = _
        rw [if_pos (hb_1 c_25), selN_sd (sd := (serN M z P i).2)]
      have h9 := ih hlt S3 (by rw [e9]; exact ci3)
      rw [e9, ← nI_1 i] at h9
      exact h9
end C26b
