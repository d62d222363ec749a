/-! the class: startWash, look -/
/-- taps are 0 .. 15 -/
def TapOK (M : Nat → Nat → Int32) (E : Nat) : Prop := ∀ e, e < E → ∃ x : Nat, x < 16 ∧ M 3 e = nI x
theorem wh_a {M : Nat → Nat → Int32} {E e : Nat} (h : TapOK M E) (he : e < E) (T : Int64) : aC (M 3 e) (M 4 e) (M 5 e) = whN M e ∧ tC (M 3 e) (M 4 e) (M 5 e) T = whT M e T := by
  obtain ⟨x, hx, e3⟩ := h e he
  unfold aC tC aB tB aD tD whN whT
  rw [e3, bcN_dull hx]
  simp only [lt_2, lt_5]
  exact ⟨trivial, trivial⟩
section C31
variable {te : Nat} {S S' : CS} {a v : Nat → Nat} {w : Nat → Nat → Nat} {E Q W P O : Nat} {M : Nat → Nat → Int32} {T : Int64}
theorem CI.dirt (c : CI te a v w E Q W P O S M T) (hE : E ≤ 600) (ok : OKM M E) {e : Nat} (he : e < E) (hno : ∀ i, i < W → (M 12 i).toNatClampNeg ≠ e) (z : Int32) : CI te a v w E Q W P O (uI (uI S 5 (w 0 e) 0) 8 (w 0 e) z) (up2 M 5 e 0) T := by
  have we := c.we ok
  obtain ⟨c1, c2, c3, c4, c5, c6, c7, c8, c9, c10, c11, c12, c13⟩ := c
  refine ⟨c1, c2, ⟨c3.1, c3.2.1, fun i hi => ?_⟩, c4, c5, c6, c7, cTr.c (N := up2 M 5 e 0) c8 rfl rfl rfl rfl rfl rfl, c9, fun f hf => ?_, c11, c12, c13⟩
  · show up2 (up2 S.2.2.2.1 5 (w 0 e) 0) 8 (w 0 e) z 8 (w 0 (M 12 i).toNatClampNeg) + 8 = M 13 i
    obtain ⟨f, hf, ef⟩ := we i hi
    rw [up2_s, upd_o (fun q => hno i hi (by rw [ef, nI_clamp (by omega)] at q ⊢; exact c13.2.2.1 f e hf he q))]
    exact c3.2.2 i hi
  · obtain ⟨d1, d2, d3, d4, d5, d6, d7, d8, d9⟩ := c10 f hf
    refine ⟨d1, d2, d3, d4, d5, d6, ?_, d8, d9⟩
    show up2 (up2 S.2.2.2.1 5 (w 0 e) 0) 8 (w 0 e) z 5 (w 0 f) = upd (M 5) e 0 f
    rw [up2_n (by decide), up2_s]
    exact upd_tie (h := w 0) (fun z => c13.2.2.1 f e hf he z) d7
theorem CI.wev (c : CI te a v w E Q W P O S M T) (y : Int32) : CI te a v w E Q W P O (uI S 42 (a 0) y) (up2 M 14 0 y) T := by
  obtain ⟨c1, c2, c3, c4, c5, c6, c7, c8, c9, c10, c11, c12, c13⟩ := c
  exact ⟨⟨c1.1, c1.2.1, c1.2.2.1, c1.2.2.2.1, (show up2 S.2.2.2.1 42 (a 0) y 42 (a 0) = up2 M 14 0 y 14 0 by rw [up2_e, up2_e]), c1.2.2.2.2.2⟩, c2, c3, c4, c5, c6, c7, cTr.c (N := up2 M 14 0 y) c8 rfl rfl rfl rfl rfl rfl, c9, c10, c11, c12, c13⟩
theorem CI.wadd (c : CI te a v w E Q W P O S M T) (hE : E ≤ 600) {e : Nat} (he : e < E) (hW : W < 30) (ht : te ∉ S.1) {y : Int32} (hy : S.2.2.2.1 8 (w 0 e) + 8 = y) {e' cap' : Nat} (ap : AddP te S S' (a 2) W (v 2) (v 12) (w 0 e) e' cap') (hc : cap' ≤ 1000) : CI te a (vu v 2 e' cap') w E Q (W + 1) P O S' (up2 (up2 (up2 M 12 W (nI e)) 13 W y) 11 0 (M 11 0 + 1)) T := by
  have L := c.l4
  have rp : Rp S S' := ap.rp (L.1 2 I2) ht
  have re := rp.re c.re
  have d3 := c.d3
  have eg := c.2.2.2.2.2.2.2.2.2.1
  obtain ⟨c1, c2, c3, c4, c5, c6, c7, c8⟩ := re
  refine CI.asm ⟨c1, c2, c3, c4.c (N := up2 (up2 (up2 M 12 W (nI e)) 13 W y) 11 0 (M 11 0 + 1)) rfl rfl rfl rfl rfl rfl, c5, c6, c7, c8⟩ (L.add I2 ht ap (Or.inl (eg e he).1) hc rfl ?_ ?_ ?_ ?_) c.2.1.1 ⟨by omega, ?_⟩ c.2.2.2.1.1 c.2.2.2.2.1.1 (fun i hi => ?_) d3
  · intro k hk
    show w 0 (upd (M 12) W (nI e) k).toNatClampNeg = w 0 (M 12 k).toNatClampNeg
    rw [upd_o (Nat.ne_of_lt (show k < W from hk))]
  · show w 0 (upd (M 12) W (nI e) W).toNatClampNeg = w 0 e
    unfold upd
    rw [if_pos rfl, nI_clamp (by omega)]
  · rintro k (rfl | rfl | rfl | rfl) h
    · rfl
    · exact absurd rfl h
    · rfl
    · rfl
  · rintro k (rfl | rfl | rfl | rfl) h m hm
    · exact (show w 0 (M 9 m).toNatClampNeg = w 0 (M 9 m).toNatClampNeg from rfl)
    · exact absurd rfl h
    · exact (show w 1 m = w 1 m from rfl)
    · exact (show w 3 m = w 3 m from rfl)
  · show upd (M 11) 0 (M 11 0 + 1) 0 = nI (W + 1)
    unfold upd
    rw [if_pos rfl, c.2.2.1.1.2, nI_1]
  · show S'.2.2.2.1 8 (w 0 (upd (M 12) W (nI e) i).toNatClampNeg) + 8 = upd (M 13) W y i
    by_cases h : i = W
    · unfold upd
      rw [if_pos h, if_pos h, nI_clamp (by omega), (rp _ (eg e he).1.1).2.2.2.2.2.1 8 (by decide) (by decide)]
      exact hy
    · rw [upd_o h, upd_o h]
      have hi2 : i < W := by omega
      have hl := (c.2.2.1.2.1.2.2.2.2.2 i hi2).2
      have hin : w 0 (M 12 i).toNatClampNeg ∈ S.1 := by rcases hl with z | z | z <;> exact z.1
      rw [(rp _ hin).2.2.2.2.2.1 8 (by decide) (by decide)]
      exact c.2.2.1.2.2 i hi2
theorem lkW_eq {e W : Nat} (h : M 11 0 = nI W) (hW : W ≤ 30) : lkW M e = up2 (up2 (up2 (up2 (up2 M 5 e 0) 12 W (nI e)) 13 W (M 35 0 + 8)) 11 0 (M 11 0 + 1)) 14 0 (M 14 0 + 1) := by
  unfold lkW
  rw [show (M 11 0).toNatClampNeg = W by rw [h]; exact nI_clamp (by omega)]
  rw [up2_sw (f := 14) (g := 5) (by decide), up2_sw (f := 11) (g := 5) (by decide), up2_sw (f := 13) (g := 5) (by decide), up2_sw (f := 12) (g := 5) (by decide)]
theorem cap2 (cp : CapOK v) {e' cap' n : Nat} (hn : n < 30) (h : cap' = v 12 ∨ (n = v 12 ∧ cap' = ncap (v 12))) : cap' ≤ 1000 ∧ CapOK (vu v 2 e' cap') := by
  have hc : cap' = 0 ∨ cap' = 10 ∨ cap' = 15 ∨ cap' = 22 ∨ cap' = 33 := by
    rcases h with z | ⟨z1, z2⟩
    · rw [z]; exact cp.2.1
    · rcases cp.2.1 with y | y | y | y | y
      · rw [y] at z2; exact Or.inr (Or.inl z2)
      · rw [y] at z2; exact Or.inr (Or.inr (Or.inl z2))
      · rw [y] at z2; exact Or.inr (Or.inr (Or.inr (Or.inl z2)))
      · rw [y] at z2; exact Or.inr (Or.inr (Or.inr (Or.inr z2)))
      · omega
  exact ⟨by omega, cp.1, hc, cp.2.2.1, cp.2.2.2⟩
theorem ncap2 (cp : CapOK v) {n : Nat} (hn : n < 30) (h : n = v 12) : ncap (v 12) ≤ 33 := by
  rcases cp.2.1 with y | y | y | y | y
  · rw [y]; decide
  · rw [y]; decide
  · rw [y]; decide
  · rw [y]; decide
  · omega
end C31
section C31b
variable {D : va_G} {ar : Nat → ClassId} {tg te mi : Nat} {S : CS}
variable {a v : Nat → Nat} {w : Nat → Nat → Nat} {E Q W P O : Nat} {M : Nat → Nat → Int32} {T : Int64}
set_option maxRecDepth 100000 in
theorem k_X4_startWash (ci : CI te a v w E Q W P O S M T) (cp : CapOK v) (ok : OKM M E) (hE : E ≤ 600) {e : Nat} (he : e < E) (hW : W < 30) (hno : ∀ i, i < W → (M 12 i).toNatClampNeg ≠ e)  : Cn D ar (XC tg te mi) yX4_startWash cX4_startWash 2 none 7 182 1 33 [.ref (a 0), .ref (w 0 e)] (cW ar S) (fun r w9 => r = none ∧ ∃ (S' : CS) (v' : Nat → Nat), w9 = cW ar S' ∧ CI te a v' w E Q (W + 1) P O S' (lkW M e) T ∧ CapOK v') := by
  refine Cn.of (own := RX4) XC_ok (by decide) rfl (Nat.le_of_ble_eq_true rfl) (fun j C => ?_)
  have C0 := C.to
  show j _ 0 0 0 [(0, _), (1, _)] []
  have hs := ci.1
  have eg := ci.2.2.2.2.2.2.2.2.2.1
  have wa := ci.2.2.1
  have c2 := ci.dirt hE ok he hno (M 35 0)
  have wa2 := c2.2.2.1
  have h8 : (uI (uI S 5 (w 0 e) 0) 8 (w 0 e) (M 35 0)).2.2.2.1 8 (w 0 e) + 8 = M 35 0 + 8 := by
    show up2 (up2 S.2.2.2.1 5 (w 0 e) 0) 8 (w 0 e) (M 35 0) 8 (w 0 e) + 8 = _
    rw [up2_e]
  refine r_aload_n C0 0 1 dX4_startWash_0 rfl rfl ?_
  refine r_iconst C0 1 0 dX4_startWash_1 (by decide) ?_
  refine cpI_5 C0 2 flX4_258 (eg e he).1 dX4_startWash_2 ?_
  refine r_aload_n C0 5 1 dX4_startWash_5 rfl rfl ?_
  refine r_aload_n C0 6 0 dX4_startWash_6 rfl rfl ?_
  refine cgI_40 C0 7 flX4_71 hs.1 dX4_startWash_7 ?_
  rw [show (uI S 5 (w 0 e) 0).2.2.2.1 40 (a 0) = M 35 0 from hs.2.2.1]
  refine cpI_8 C0 10 flX4_264 (eg e he).1 dX4_startWash_10 ?_
  refine r_aload_n C0 13 0 dX4_startWash_13 rfl rfl ?_
  refine cgR_2 C0 14 hs.2.1.2.1 flX4_16 hs.1 dX4_startWash_14 ?_
  refine r_aload_n C0 17 1 dX4_startWash_17 rfl rfl ?_
  refine ca_teN C0 (fun hte => ?_)
  have L := c2.l4
  by_cases hf : W < v 12
  · refine c_call (As := [.ref _]) C0 18 1 (k_addR (L.1 2 I2) hf (Or.inl (eg e he).1)) (rm_Jx4a65c_add_9ea2d (by decide) (by decide) (Nat.le_of_ble_eq_true rfl) (Nat.le_of_ble_eq_true rfl)) mlX4_64 im_Jx4a65c_add_9ea2d se_Jx4a65c_add_9ea2d (by decide) rfl wa.2.1.1 rfl (Nat.le_of_ble_eq_true rfl) dX4_startWash_18 ?_
    rintro _ _ ⟨rfl, S3, e', cap', rfl, ap⟩
    have c3 := c2.wadd hE he hW hte h8 ap (cap2 (e' := e') cp hW ap.cap).1
    refine r_pop C0 21 dX4_startWash_21 rfl ?_
    refine r_aload_n C0 22 0 dX4_startWash_22 rfl rfl ?_
    refine r_dup C0 23 dX4_startWash_23 rfl ?_
    refine cgI_42 C0 24 flX4_131 c3.1.1 dX4_startWash_24 ?_
    rw [c3.1.2.2.2.2.1, show up2 (up2 (up2 (up2 M 5 e 0) 12 W (nI e)) 13 W (M 35 0 + 8)) 11 0 (up2 M 5 e 0 11 0 + 1) 14 0 = M 14 0 from rfl]
    refine r_iconst C0 27 1 dX4_startWash_27 (by decide) ?_
    refine r_iadd C0 28 dX4_startWash_28 ?_
    refine cpI_42 C0 29 flX4_131 c3.1.1 dX4_startWash_29 ?_
    refine r_vret C 32 dX4_startWash_32 (Nat.le_of_ble_eq_true rfl) (Nat.le_of_ble_eq_true rfl) ?_
    exact ⟨rfl, _, _, rfl, by rw [lkW_eq wa.1.2 wa.1.1]; exact c3.wev _, (cap2 cp hW ap.cap).2⟩
  · have hv : W = v 12 := by
      have := wa.2.1.2.2.2.1.1
      omega
    have hcap := ncap2 cp hW hv
    have Lf : LsA te (uI (uI S 5 (w 0 e) 0) 8 (w 0 e) (M 35 0)) (a 2) (v 12) (v 2) (v 12) (ff (up2 M 5 e 0) w 2) := by
      have l := L.1 2 I2
      rw [show nn Q W P O 2 = v 12 from hv] at l
      exact l
    refine c_call (As := [.ref _]) C0 18 1 (k_addF Lf (Or.inl (eg e he).1)) (rm_Jx4a65c_add_9ea2d (by decide) (by decide) (Nat.le_of_ble_eq_true rfl) (show 0 + ncap (v 12) ≤ 33 by omega)) mlX4_64 im_Jx4a65c_add_9ea2d se_Jx4a65c_add_9ea2d (by decide) rfl wa.2.1.1 rfl (Nat.le_of_ble_eq_true rfl) dX4_startWash_18 ?_
    rintro _ _ ⟨rfl, S3, e', cap', rfl, ap⟩
    replace ap : AddP te (uI (uI S 5 (w 0 e) 0) 8 (w 0 e) (M 35 0)) S3 (a 2) W (v 2) (v 12) (w 0 e) e' cap' := by rw [hv]; exact ap
    refine r_widen C0 1 33 (by decide) (by omega) ?_
    have c3 := c2.wadd hE he hW hte h8 ap (cap2 (e' := e') cp hW ap.cap).1
    refine r_pop C0 21 dX4_startWash_21 rfl ?_
    refine r_aload_n C0 22 0 dX4_startWash_22 rfl rfl ?_
    refine r_dup C0 23 dX4_startWash_23 rfl ?_
    refine cgI_42 C0 24 flX4_131 c3.1.1 dX4_startWash_24 ?_
    rw [c3.1.2.2.2.2.1, show up2 (up2 (up2 (up2 M 5 e 0) 12 W (nI e)) 13 W (M 35 0 + 8)) 11 0 (up2 M 5 e 0 11 0 + 1) 14 0 = M 14 0 from rfl]
    refine r_iconst C0 27 1 dX4_startWash_27 (by decide) ?_
    refine r_iadd C0 28 dX4_startWash_28 ?_
    refine cpI_42 C0 29 flX4_131 c3.1.1 dX4_startWash_29 ?_
    refine r_vret C 32 dX4_startWash_32 (Nat.le_of_ble_eq_true rfl) (Nat.le_of_ble_eq_true rfl) ?_
    exact ⟨rfl, _, _, rfl, by rw [lkW_eq wa.1.2 wa.1.1]; exact c3.wev _, (cap2 cp hW ap.cap).2⟩
set_option maxRecDepth 100000 in
theorem k_X4_look (ci : CI te a v w E Q W P O S M T) (cp : CapOK v) (ok : OKM M E) (hE : E ≤ 600) {lo : Nat → Nat} (pl : Pl M lo) (tp : TapOK M E)  : Cn D ar (XC tg te mi) yX4_look cX4_look 3 none 8 205 1 33 [.ref (a 0)] (cW ar S) (fun r w9 => r = none ∧ ∃ (S' : CS) (v' : Nat → Nat) (W' : Nat), w9 = cW ar S' ∧ CI te a v' w E Q W' P O S' (lkM M) (lkT M T) ∧ CapOK v') := by
  refine Cn.of (own := RX4) XC_ok (by decide) rfl (Nat.le_of_ble_eq_true rfl) (fun j C => ?_)
  have C0 := C.to
  show j _ 0 0 0 [(0, _)] []
  have hs := ci.1
  have ln := ci.2.2.2.2.2.1
  have eg := ci.2.2.2.2.2.2.2.2.2.1
  rcases ok.ln (k := 5) hE (by decide) with z | ⟨z, z1, z2, z3⟩
  · refine r_aload_n C0 0 0 dX4_look_0 rfl rfl ?_
    refine cgR_3 C0 1 hs.2.1.2.2.1 flX4_21 hs.1 dX4_look_1 ?_
    refine r_iconst C0 4 5 dX4_look_4 (by decide) ?_
    refine ca_ald C0 5 5 (by decide) ln.1 rfl (by rw [ln.2.1]; decide) (by rw [ln.2.1]; decide) (by rw [ln.2.2 5 (by decide), if_pos z]) dX4_look_5 ?_
    refine r_astore_nN (lv' := [(0, _), (1, _)]) C0 6 1 dX4_look_6 rfl rfl (by decide) rfl ?_
    refine r_aload_nN C0 7 1 dX4_look_7 rfl rfl ?_
    refine r_ifnonnullN C0 8 dX4_look_8 ?_
    refine r_vret C 11 dX4_look_11 (Nat.le_of_ble_eq_true rfl) (Nat.le_of_ble_eq_true rfl) ?_
    have hn : ¬ 0 ≤ M 10 5 - 1 := by rw [z]; decide
    exact ⟨rfl, S, v, W, rfl, by rw [show lkM M = M from if_neg hn, show lkT M T = T from if_neg hn]; exact ci, cp⟩
  · have hp : 0 ≤ M 10 5 - 1 := Int32.not_lt.mp z1
    obtain ⟨b, hb4, hb⟩ := ok.2.2.2.2.2 _ z2
    have hbn : bN M (eN M 5) = b := by unfold bN; rw [hb]; exact nI_clamp (by omega)
    have hlM : lkM M = lk2 M (eN M 5) := if_pos hp
    have hlT : lkT M T = whT M (eN M 5) T := if_pos hp
    obtain ⟨eA, eT⟩ := wh_a tp z2 T
    have hno : ∀ i, i < W → (M 12 i).toNatClampNeg ≠ eN M 5 := fun i hi q => by
      have h1 := pl.2.1 i (by rw [ci.2.2.1.1.2, nI_clamp (by have := ci.2.2.1.1.1; omega)]; exact hi)
      rw [q, pl.2.2.1 5 (by decide) z1] at h1
      have := ci.2.2.1.1.1
      omega
    refine r_aload_n C0 0 0 dX4_look_0 rfl rfl ?_
    refine cgR_3 C0 1 hs.2.1.2.2.1 flX4_21 hs.1 dX4_look_1 ?_
    refine r_iconst C0 4 5 dX4_look_4 (by decide) ?_
    refine ca_ald C0 5 5 (by decide) ln.1 rfl (by rw [ln.2.1]; decide) (by rw [ln.2.1]; decide) (by rw [ln.2.2 5 (by decide), if_neg z]) dX4_look_5 ?_
    refine r_astore_n (lv' := [(0, _), (1, _)]) C0 6 1 dX4_look_6 rfl rfl (by decide) rfl ?_
    refine r_aload_n C0 7 1 dX4_look_7 rfl rfl ?_
    refine r_ifnonnull C0 8 12 dX4_look_8 (by decide) ?_
    refine r_aload_n C0 12 0 dX4_look_12 rfl rfl ?_
    refine r_aload_n C0 13 1 dX4_look_13 rfl rfl ?_
    refine c_call (As := [.ref _]) C0 14 1 (k_X4_askCracked XC_ok hs.1 (eg _ z2).1) (rm_X4_askCracked (by decide) (by decide) (Nat.le_of_ble_eq_true rfl) (Nat.le_of_ble_eq_true rfl)) mlX4_227 im_X4_askCracked se_X4_askCracked (by decide) rfl hs.1 rfl (Nat.le_of_ble_eq_true rfl) dX4_look_14 ?_
    rintro _ _ ⟨rfl, rfl⟩
    rw [(eg _ z2).2.2.2.2.1, (eg _ z2).2.2.2.2.2.1, (eg _ z2).2.2.2.2.2.2.1, hs.2.2.2.2.2, eA, eT]
    have ci2 := ci.jt (whT M (eN M 5) T)
    refine r_istore_n (lv' := [(0, _), (1, _), (2, _)]) C0 17 2 dX4_look_17 rfl rfl (by decide) rfl ?_
    refine r_iload_n C0 18 2 dX4_look_18 rfl rfl ?_
    refine r_if_ne C0 19 23 dX4_look_19 (by decide) (fun c_19 => ?_) (fun c_19 => ?_)
    · refine r_aload_n C0 23 0 dX4_look_23 rfl rfl ?_
      refine cgR_3 C0 24 ci2.1.2.1.2.2.1 flX4_21 hs.1 dX4_look_24 ?_
      refine r_iconst C0 27 5 dX4_look_27 (by decide) ?_
      refine r_null C0 28 dX4_look_28 ?_
      refine ca_astN C0 29 5 (by decide) ci2.2.2.2.2.2.1.1 rfl (by rw [ci2.2.2.2.2.2.1.2.1]; decide) (by rw [ci2.2.2.2.2.2.1.2.1]; decide) dX4_look_29 ?_
      have ci3 := ci2.line (x := 5) (y := 0) (o := none) rfl
      have bb3 := ci3.2.2.2.2.2.2.2.2.2.2.2.1
      have d9 := bb3.2.2 b hb4
      have eg3 := ci3.2.2.2.2.2.2.2.2.2.1
      have hb3 : up2 M 10 5 0 1 (eN M 5) = nI b := hb
      have wa3 := ci3.2.2.1
      refine r_iload_n C0 30 2 dX4_look_30 rfl rfl ?_
      refine r_iconst C0 31 3 dX4_look_31 (by decide) ?_
      refine r_icmp_ne C0 32 53 dX4_look_32 (by decide) (fun c_32 => ?_) (fun c_32 => ?_)
      · refine r_iload_n C0 53 2 dX4_look_53 rfl rfl ?_
        refine r_iconst C0 54 1 dX4_look_54 (by decide) ?_
        refine r_icmp_ne C0 55 78 dX4_look_55 (by decide) (fun c_55 => ?_) (fun c_55 => ?_)
        · refine r_aload_n C0 78 0 dX4_look_78 rfl rfl ?_
          refine cgR_7 C0 79 ci3.1.2.1.2.2.2.2.2.2 flX4_39 hs.1 dX4_look_79 ?_
          refine r_aload_n C0 82 1 dX4_look_82 rfl rfl ?_
          refine cgI_1 C0 83 flX4_107 (eg _ z2).1 dX4_look_83 ?_
          rw [(eg3 _ z2).2.2.1]
          refine ca_ald C0 86 b (by decide) bb3.1 hb3 (by rw [bb3.2.1]; exact hb4) (by rw [bb3.2.1]; decide) d9.1 dX4_look_86 ?_
          refine r_iconst C0 87 1 dX4_look_87 (by decide) ?_
          refine r_dup2 C0 88 dX4_look_88 rfl rfl ?_
          refine ca_ild C0 89 1 d9.2.1 rfl (by rw [d9.2.2.1]; decide) (by rw [d9.2.2.1]; decide) dX4_look_89 ?_
          rw [bb3.ix hb4 (by decide)]
          refine r_iconst C0 90 1 dX4_look_90 (by decide) ?_
          refine r_iadd C0 91 dX4_look_91 ?_
          refine ca_ist C0 92 1 d9.2.1 rfl (by rw [d9.2.2.1]; decide) (by rw [d9.2.2.1]; decide) dX4_look_92 ?_
          refine r_vret C 93 dX4_look_93 (Nat.le_of_ble_eq_true rfl) (Nat.le_of_ble_eq_true rfl) ?_
          exact ⟨rfl, _, _, _, rfl, by rw [hlM, hlT, show lk2 M (eN M 5) = up2 (up2 M 10 5 0) 15 (ix5 b 1) (up2 M 10 5 0 15 (ix5 b 1) + 1) by unfold lk2; rw [if_neg c_19, if_neg c_55, if_neg c_32, hbn]; rfl]; exact ci3.bb hb4 (by decide) _, cp⟩
        · refine r_aload_n C0 58 0 dX4_look_58 rfl rfl ?_
          refine cgR_2 C0 59 ci3.1.2.1.2.1 flX4_16 hs.1 dX4_look_59 ?_
          refine c_call (As := []) C0 62 0 (k_Jx4a65c_size_8abf5 XC_ok wa3.2.1.1) (rm_Jx4a65c_size_8abf5 (by decide) (by decide) (Nat.le_of_ble_eq_true rfl) (Nat.le_of_ble_eq_true rfl)) mlX4_53 im_Jx4a65c_size_8abf5 se_Jx4a65c_size_8abf5 (by decide) rfl wa3.2.1.1 rfl (Nat.le_of_ble_eq_true rfl) dX4_look_62 ?_
          rintro _ _ ⟨rfl, rfl⟩
          rw [wa3.2.1.2.1]
          refine r_bipush C0 65 30 dX4_look_65 (by decide) ?_
          refine r_icmp_ge C0 67 78 dX4_look_67 (by decide) (fun c_67 => ?_) (fun c_67 => ?_)
          · refine r_aload_n C0 78 0 dX4_look_78 rfl rfl ?_
            refine cgR_7 C0 79 ci3.1.2.1.2.2.2.2.2.2 flX4_39 hs.1 dX4_look_79 ?_
            refine r_aload_n C0 82 1 dX4_look_82 rfl rfl ?_
            refine cgI_1 C0 83 flX4_107 (eg _ z2).1 dX4_look_83 ?_
            rw [(eg3 _ z2).2.2.1]
            refine ca_ald C0 86 b (by decide) bb3.1 hb3 (by rw [bb3.2.1]; exact hb4) (by rw [bb3.2.1]; decide) d9.1 dX4_look_86 ?_
            refine r_iconst C0 87 1 dX4_look_87 (by decide) ?_
            refine r_dup2 C0 88 dX4_look_88 rfl rfl ?_
            refine ca_ild C0 89 1 d9.2.1 rfl (by rw [d9.2.2.1]; decide) (by rw [d9.2.2.1]; decide) dX4_look_89 ?_
            rw [bb3.ix hb4 (by decide)]
            refine r_iconst C0 90 1 dX4_look_90 (by decide) ?_
            refine r_iadd C0 91 dX4_look_91 ?_
            refine ca_ist C0 92 1 d9.2.1 rfl (by rw [d9.2.2.1]; decide) (by rw [d9.2.2.1]; decide) dX4_look_92 ?_
            refine r_vret C 93 dX4_look_93 (Nat.le_of_ble_eq_true rfl) (Nat.le_of_ble_eq_true rfl) ?_
            exact ⟨rfl, _, _, _, rfl, by rw [hlM, hlT, show lk2 M (eN M 5) = up2 (up2 M 10 5 0) 15 (ix5 b 1) (up2 M 10 5 0 15 (ix5 b 1) + 1) by unfold lk2; rw [if_neg c_19, if_pos c_55, if_pos (by rw [ci.2.2.1.1.2]; exact c_67), hbn]; rfl]; exact ci3.bb hb4 (by decide) _, cp⟩
          · have hWl : W < 30 := Nat.lt_of_not_le (fun q => c_67 (nI_le (a := 30) q (by have := ci.2.2.1.1.1; omega)))
            refine r_aload_n C0 70 0 dX4_look_70 rfl rfl ?_
            refine r_aload_n C0 71 1 dX4_look_71 rfl rfl ?_
            refine c_call (As := [.ref _]) C0 72 1 (k_X4_startWash ci3 cp ok.z hE z2 hWl hno) (rm_X4_startWash (by decide) (by decide) (Nat.le_of_ble_eq_true rfl) (Nat.le_of_ble_eq_true rfl)) mlX4_231 im_X4_startWash se_X4_startWash (by decide) rfl hs.1 rfl (Nat.le_of_ble_eq_true rfl) dX4_look_72 ?_
            rintro _ _ ⟨rfl, S4, v4, rfl, c4, cp4⟩
            refine r_goto C0 75 93 dX4_look_75 (by decide) ?_
            refine r_vret C 93 dX4_look_93 (Nat.le_of_ble_eq_true rfl) (Nat.le_of_ble_eq_true rfl) ?_
            exact ⟨rfl, S4, v4, _, rfl, by rw [hlM, hlT, show lk2 M (eN M 5) = lkW (up2 M 10 5 0) (eN M 5) by unfold lk2; rw [if_neg c_19, if_pos c_55, if_neg (by rw [ci.2.2.1.1.2]; exact c_67)]]; exact c4, cp4⟩
      · refine r_aload_n C0 35 0 dX4_look_35 rfl rfl ?_
        refine cgR_7 C0 36 ci3.1.2.1.2.2.2.2.2.2 flX4_39 hs.1 dX4_look_36 ?_
        refine r_aload_n C0 39 1 dX4_look_39 rfl rfl ?_
        refine cgI_1 C0 40 flX4_107 (eg _ z2).1 dX4_look_40 ?_
        rw [(eg3 _ z2).2.2.1]
        refine ca_ald C0 43 b (by decide) bb3.1 hb3 (by rw [bb3.2.1]; exact hb4) (by rw [bb3.2.1]; decide) d9.1 dX4_look_43 ?_
        refine r_iconst C0 44 2 dX4_look_44 (by decide) ?_
        refine r_dup2 C0 45 dX4_look_45 rfl rfl ?_
        refine ca_ild C0 46 2 d9.2.1 rfl (by rw [d9.2.2.1]; decide) (by rw [d9.2.2.1]; decide) dX4_look_46 ?_
        rw [bb3.ix hb4 (by decide)]
        refine r_iconst C0 47 1 dX4_look_47 (by decide) ?_
        refine r_iadd C0 48 dX4_look_48 ?_
        refine ca_ist C0 49 2 d9.2.1 rfl (by rw [d9.2.2.1]; decide) (by rw [d9.2.2.1]; decide) dX4_look_49 ?_
        refine r_goto C0 50 93 dX4_look_50 (by decide) ?_
        refine r_vret C 93 dX4_look_93 (Nat.le_of_ble_eq_true rfl) (Nat.le_of_ble_eq_true rfl) ?_
        exact ⟨rfl, _, _, _, rfl, by rw [hlM, hlT, show lk2 M (eN M 5) = up2 (up2 M 10 5 0) 15 (ix5 b 2) (up2 M 10 5 0 15 (ix5 b 2) + 1) by unfold lk2; rw [if_neg c_19, if_neg (by rw [c_32]; decide), if_pos c_32, hbn]; rfl]; exact ci3.bb hb4 (by decide) _, cp⟩
    · refine r_vret C 22 dX4_look_22 (Nat.le_of_ble_eq_true rfl) (Nat.le_of_ble_eq_true rfl) ?_
      exact ⟨rfl, _, v, W, rfl, by rw [hlM, hlT, show lk2 M (eN M 5) = M from if_pos c_19]; exact ci2, cp⟩
end C31b
