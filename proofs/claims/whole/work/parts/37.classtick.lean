/-! the class: passOneTick, tick -/
/-- what ticks leave alone -/
def Tt (E : Nat) (M N : Nat → Nat → Int32) : Prop := (∀ g, (g ≤ 4 ∨ g = 16 ∨ g = 17 ∨ (30 ≤ g ∧ g ≤ 34) ∨ g = 36) → N g = M g) ∧ (∀ i, 16 ≤ i → N 15 i = M 15 i) ∧ ∀ e, E ≤ e → N 6 e = M 6 e ∧ N 7 e = M 7 e
section C37a
variable {M N : Nat → Nat → Int32} {E now : Nat} {T : Int64}
theorem Tt.rf : Tt E M M := ⟨fun _ _ => rfl, fun _ _ => rfl, fun _ _ => ⟨rfl, rfl⟩⟩
theorem Tt.t {K : Nat → Nat → Int32} (h : Tt E M N) (h2 : Tt E N K) : Tt E M K := ⟨fun g q => (h2.1 g q).trans (h.1 g q), fun i q => (h2.2.1 i q).trans (h.2.1 i q), fun e q => ⟨(h2.2.2 e q).1.trans (h.2.2 e q).1, (h2.2.2 e q).2.trans (h.2.2 e q).2⟩⟩
theorem Tt.ot (ok : OKM M E) (hE : E ≤ 600) : Tt E M (otM M) := by
  have h := Tk.tkB ok hE
  refine ⟨fun g q => ?_, fun i q => ?_, fun e q => ?_⟩
  · unfold otM
    rw [up2_n (by omega)]
    exact h.1 g (by omega)
  · unfold otM
    rw [up2_n (by decide)]
    exact h.2.1 i q
  · unfold otM
    rw [up2_n (by decide), up2_n (by decide)]
    exact h.2.2 e q
theorem TI.tik (h : TI M E now) (hE : E ≤ 600) : ∀ i, now + i ≤ 30000 → TI (tikN M T i).1 E (now + i)
  | 0, _ => h
  | i + 1, q => (TI.tik h hE i (by omega)).ot hE (by omega)
theorem Tt.tik (ok : OKM M E) (hE : E ≤ 600) : ∀ i, Tt E M (tikN M T i).1
  | 0 => Tt.rf
  | i + 1 => (Tt.tik ok hE i).t (Tt.ot (tikN_ok ok hE i) hE)
theorem TapOK.c (h : TapOK M E) (h3 : N 3 = M 3) : TapOK N E := by unfold TapOK; rw [h3]; exact h
end C37a
section C37
variable {D : va_G} {ar : Nat → ClassId} {tg te mi : Nat} {S : CS}
variable {a v : Nat → Nat} {w : Nat → Nat → Nat} {E Q W P O now : Nat} {M : Nat → Nat → Int32} {T : Int64}
set_option maxRecDepth 100000 in
theorem k_X4_passOneTick (ci : CI te a v w E Q W P O S M T) (cp : CapOK v) (ti : TI M E now) (hE : E ≤ 600) (tp : TapOK M E)  : Cn D ar (XC tg te mi) yX4_passOneTick cX4_passOneTick 2 none 9 227 9 189 [.ref (a 0)] (cW ar S) (fun r w9 => r = none ∧ ∃ (S' : CS) (v' : Nat → Nat) (w' : Nat → Nat → Nat) (Q' W' P' : Nat), w9 = cW ar S' ∧ CI te a v' w' E Q' W' P' O S' (otM M) (otT M T) ∧ CapOK v') := by
  refine Cn.of (own := RX4) XC_ok (by decide) rfl (Nat.le_of_ble_eq_true rfl) (fun j C => ?_)
  have C0 := C.to
  show j _ 0 0 0 [(0, _)] []
  have hh := ci.1.1
  obtain ⟨lo1, pl1⟩ := ti.s1.s2.2.1
  obtain ⟨lo2, pl2⟩ := ti.tkA.2.1
  have tp2 : TapOK (tkA M) E := tp.c ((((Tk.s1 ti.1 hE).t Tk.s2).t (Tk.s3 ti.1.s1.s2 hE)).1 3 (by decide))
  have ti3 := ti.tkA.lk hE
  have ti4 := ti3.tk4 hE 4 (by decide)
  have ti5 := TI.dr 30 ti4
  have h10 : drN 30 (tk4 (lkM (tkA M)) 4) 10 0 = 0 := z0_dr 30 (z0_tk4 (z0_lk (z0_s3 s2M_100)) 4)
  refine r_aload_n C0 0 0 dX4_passOneTick_0 rfl rfl ?_
  refine c_call (As := []) C0 1 0 (k_X4_moveLine ci ti.1 hE) (rm_X4_moveLine (Nat.le_of_ble_eq_true rfl) (Nat.le_of_ble_eq_true rfl) (Nat.le_of_ble_eq_true rfl) (Nat.le_of_ble_eq_true rfl)) mlX4_205 im_X4_moveLine se_X4_moveLine (by decide) rfl hh rfl (Nat.le_of_ble_eq_true rfl) dX4_passOneTick_1 ?_
  rintro _ _ ⟨rfl, S1, rfl, c1⟩
  have hh := c1.1.1
  refine r_aload_n C0 4 0 dX4_passOneTick_4 rfl rfl ?_
  refine c_call (As := []) C0 5 0 (k_X4_weigh c1 ti.s1.s2.1 hE pl1) (rm_X4_weigh (Nat.le_of_ble_eq_true rfl) (Nat.le_of_ble_eq_true rfl) (Nat.le_of_ble_eq_true rfl) (Nat.le_of_ble_eq_true rfl)) mlX4_208 im_X4_weigh se_X4_weigh (by decide) rfl hh rfl (Nat.le_of_ble_eq_true rfl) dX4_passOneTick_5 ?_
  rintro _ _ ⟨rfl, S2, rfl, c2⟩
  have hh := c2.1.1
  refine r_aload_n C0 8 0 dX4_passOneTick_8 rfl rfl ?_
  refine c_call (As := []) C0 9 0 (k_X4_look (M := tkA M) c2 cp ti.tkA.1 hE pl2 tp2) (rm_X4_look (Nat.le_of_ble_eq_true rfl) (Nat.le_of_ble_eq_true rfl) (Nat.le_of_ble_eq_true rfl) (Nat.le_of_ble_eq_true rfl)) mlX4_211 im_X4_look se_X4_look (by decide) rfl hh rfl (Nat.le_of_ble_eq_true rfl) dX4_passOneTick_9 ?_
  rintro _ _ ⟨rfl, S3, v3, W3, rfl, c3, cp3⟩
  have hh := c3.1.1
  refine r_iconst C0 12 0 dX4_passOneTick_12 (by decide) ?_
  refine r_istore_n (lv' := [(0, _), (1, _)]) C0 13 1 dX4_passOneTick_13 rfl rfl (by decide) rfl ?_
  have key : ∀ i, i ≤ 4 → (fun i => ∀ (S4 : CS) (v4 : Nat → Nat) (w4 : Nat → Nat → Nat) (P4 k n : Nat), CI te a v4 w4 E Q W3 P4 O S4 (tk4 (lkM (tkA M)) i) (otT M T) → CapOK v4 → ((k ≤ 1 + i ∧ n ≤ 33 + 9 * i) ∨ (k ≤ 2 + i ∧ n ≤ 106 + 9 * i ∧ P4 + (4 - i) ≤ v4 15)) → j (cW ar S4) k n 14 [(0, .ref (a 0)), (1, .int (nI i))] []) i := by
    refine loopUp (P := 4) (f := fun i => ∀ (S4 : CS) (v4 : Nat → Nat) (w4 : Nat → Nat → Nat) (P4 k n : Nat), CI te a v4 w4 E Q W3 P4 O S4 (tk4 (lkM (tkA M)) i) (otT M T) → CapOK v4 → ((k ≤ 1 + i ∧ n ≤ 33 + 9 * i) ∨ (k ≤ 2 + i ∧ n ≤ 106 + 9 * i ∧ P4 + (4 - i) ≤ v4 15)) → j (cW ar S4) k n 14 [(0, .ref (a 0)), (1, .int (nI i))] []) (fun i hi ih S4 v4 w4 P4 k n c4 cp4 hkn => ?_)
    have hs4 := c4.1
    have hh := c4.1.1
    have pr4 := c4.2.2.2.2.2.2.1
    have tiI := ti3.tk4 hE i hi
    refine r_iload_n C0 14 1 dX4_passOneTick_14 rfl rfl ?_
    refine r_iconst C0 15 4 dX4_passOneTick_15 (by decide) ?_
    refine r_icmp_ge C0 16 35 dX4_passOneTick_16 (by decide) (fun c_16 => ?_) (fun c_16 => ?_)
    · have hge : 4 ≤ i := (nI_leI (a := 4) (by omega) (by omega)).mp c_16
      have e9 : i = 4 := by omega
      subst e9
      refine r_widen C0 6 142 (by omega) (by omega) ?_
      refine r_aload_n C0 35 0 dX4_passOneTick_35 rfl rfl ?_
      refine c_call (As := []) C0 36 0 (k_X4_bringWashed c4 cp4 ti4.1 hE ti4.2.2.2.2.2.1 ti4.2.2.2.2.2.2 ti4.2.2.2.1) (rm_X4_bringWashed (Nat.le_of_ble_eq_true rfl) (Nat.le_of_ble_eq_true rfl) (Nat.le_of_ble_eq_true rfl) (Nat.le_of_ble_eq_true rfl)) mlX4_218 im_X4_bringWashed se_X4_bringWashed (by decide) rfl hh rfl (Nat.le_of_ble_eq_true rfl) dX4_passOneTick_36 ?_
      rintro _ _ ⟨rfl, S5, v5, Q5, W5, rfl, c5, cp5⟩
      have hh := c5.1.1
      refine r_aload_n C0 39 0 dX4_passOneTick_39 rfl rfl ?_
      refine c_call (As := []) C0 40 0 (k_X4_feedLine c5 ti5.1 hE h10) (rm_X4_feedLine (Nat.le_of_ble_eq_true rfl) (Nat.le_of_ble_eq_true rfl) (Nat.le_of_ble_eq_true rfl) (Nat.le_of_ble_eq_true rfl)) mlX4_221 im_X4_feedLine se_X4_feedLine (by decide) rfl hh rfl (Nat.le_of_ble_eq_true rfl) dX4_passOneTick_40 ?_
      rintro _ _ ⟨rfl, S6, Q6, rfl, c6⟩
      have hh := c6.1.1
      refine r_aload_n C0 43 0 dX4_passOneTick_43 rfl rfl ?_
      refine r_dup C0 44 dX4_passOneTick_44 rfl ?_
      refine cgI_40 C0 45 flX4_71 hh dX4_passOneTick_45 ?_
      rw [c6.1.2.2.1]
      refine r_iconst C0 48 1 dX4_passOneTick_48 (by decide) ?_
      refine r_iadd C0 49 dX4_passOneTick_49 ?_
      refine cpI_40 C0 50 flX4_71 hh dX4_passOneTick_50 ?_
      refine r_vret C 53 dX4_passOneTick_53 (Nat.le_of_ble_eq_true rfl) (Nat.le_of_ble_eq_true rfl) ?_
      exact ⟨rfl, _, v5, w4, Q6, W5, P4, rfl, c6.tock _, cp5⟩
    · have hlt : i < 4 := Nat.lt_of_not_le (fun q => c_16 (nI_le (a := 4) q (by omega)))
      refine r_aload_n C0 19 0 dX4_passOneTick_19 rfl rfl ?_
      refine r_aload_n C0 20 0 dX4_passOneTick_20 rfl rfl ?_
      refine cgR_4 C0 21 hs4.2.1.2.2.2.1 flX4_27 hh dX4_passOneTick_21 ?_
      refine r_iload_n C0 24 1 dX4_passOneTick_24 rfl rfl ?_
      refine ca_ald C0 25 i (by decide) pr4.1 rfl (by rw [pr4.2.1]; exact hlt) (by rw [pr4.2.1]; decide) (pr4.2.2 i hlt).1 dX4_passOneTick_25 ?_
      have h7 : ∀ e, e < E → 0 ≤ tk4 (lkM (tkA M)) i 7 e := fun e he => by
        obtain ⟨x, hx, ex⟩ := tiI.2.2.1 e he
        have hb := tiI.2.2.2.2.2.2
        rw [ex]
        exact nI_pos' (by omega)
      by_cases hcl : clN (tk4 (lkM (tkA M)) i) i
      · by_cases hg : P4 < v4 15
        · refine c_call (As := [.ref _]) C0 26 1 (k_X4_letTake c4 cp4 tiI.1 hE h7 hlt 1 9 (fun _ => Or.inl ⟨hg, by decide, by decide⟩)) (rm_X4_letTake (Nat.le_of_ble_eq_true rfl) (Nat.le_of_ble_eq_true rfl) (by show _ ≤ 9; omega) (by show _ ≤ 189; omega)) mlX4_214 im_X4_letTake se_X4_letTake (by decide) rfl hh rfl (Nat.le_of_ble_eq_true rfl) dX4_passOneTick_26 ?_
          rintro _ _ ⟨rfl, S5, v5, w5, P5, rfl, c5, cp5, rl⟩
          refine r_iinc (lv' := [(0, _), (1, _)]) C0 29 _ dX4_passOneTick_29 rfl rfl rfl (by decide) rfl ?_
          refine r_goto C0 32 14 dX4_passOneTick_32 (by decide) ?_
          have hP5 := c5.2.2.2.1.1.1
          have h9 := ih hlt S5 v5 w5 P5 (k + 1) (n + 9) c5 cp5 (by
            rcases rl with ⟨q, -⟩ | ⟨-, q1, q2⟩
            · exact absurd hcl q
            · rcases q2 with ⟨q2, -⟩ | ⟨q2, -⟩
              · rw [q1, q2]; omega
              · omega)
          rw [← nI_1 i] at h9
          exact h9
        · refine c_call (As := [.ref _]) C0 26 1 (k_X4_letTake c4 cp4 tiI.1 hE h7 hlt 2 82 (fun _ => Or.inr ⟨by decide, by decide⟩)) (rm_X4_letTake (Nat.le_of_ble_eq_true rfl) (Nat.le_of_ble_eq_true rfl) (by show _ ≤ 9; omega) (by show _ ≤ 189; omega)) mlX4_214 im_X4_letTake se_X4_letTake (by decide) rfl hh rfl (Nat.le_of_ble_eq_true rfl) dX4_passOneTick_26 ?_
          rintro _ _ ⟨rfl, S5, v5, w5, P5, rfl, c5, cp5, rl⟩
          refine r_iinc (lv' := [(0, _), (1, _)]) C0 29 _ dX4_passOneTick_29 rfl rfl rfl (by decide) rfl ?_
          refine r_goto C0 32 14 dX4_passOneTick_32 (by decide) ?_
          have hP5 := c5.2.2.2.1.1.1
          have h9 := ih hlt S5 v5 w5 P5 (k + 2) (n + 82) c5 cp5 (by
            rcases rl with ⟨q, -⟩ | ⟨-, q1, q2⟩
            · exact absurd hcl q
            · rcases q2 with ⟨-, q2⟩ | ⟨q2, q3⟩
              · omega
              · have q4 := (ncap5 cp4 (n := P4) (by omega) q2).2
                rw [q1, q3]
                omega)
          rw [← nI_1 i] at h9
          exact h9
      · refine c_call (As := [.ref _]) C0 26 1 (k_X4_letTake c4 cp4 tiI.1 hE h7 hlt 0 0 (fun q => absurd q hcl)) (rm_X4_letTake (Nat.le_of_ble_eq_true rfl) (Nat.le_of_ble_eq_true rfl) (by show _ ≤ 9; omega) (by show _ ≤ 189; omega)) mlX4_214 im_X4_letTake se_X4_letTake (by decide) rfl hh rfl (Nat.le_of_ble_eq_true rfl) dX4_passOneTick_26 ?_
        rintro _ _ ⟨rfl, S5, v5, w5, P5, rfl, c5, cp5, rl⟩
        refine r_iinc (lv' := [(0, _), (1, _)]) C0 29 _ dX4_passOneTick_29 rfl rfl rfl (by decide) rfl ?_
        refine r_goto C0 32 14 dX4_passOneTick_32 (by decide) ?_
        have hP5 := c5.2.2.2.1.1.1
        have h9 := ih hlt S5 v5 w5 P5 (k + 0) (n + 0) c5 cp5 (by
          rcases rl with ⟨-, q1, q2⟩ | ⟨q, -⟩
          · rw [q1, q2]; omega
          · exact absurd q hcl)
        rw [← nI_1 i] at h9
        exact h9
  exact key 0 (by decide) S3 v3 w P _ _ c3 cp3 (Or.inl ⟨by decide, by decide⟩)
set_option maxRecDepth 100000 in
theorem k_X4_tick (ci : CI te a v w E Q W P O S M T) (cp : CapOK v) (ti : TI M E now) (hE : E ≤ 600) (tp : TapOK M E) (hnb : now + 40 ≤ 30000) (n9 : Int32)  : Cn D ar (XC tg te mi) yX4_tick cX4_tick 3 (some .int) 10 248 360 7560 [.ref (a 0), .int n9] (cW ar S) (fun r w9 => r = some (.int (tikA M T n9)) ∧ ∃ (S' : CS) (v' : Nat → Nat) (w' : Nat → Nat → Nat) (Q' W' P' : Nat), w9 = cW ar S' ∧ CI te a v' w' E Q' W' P' O S' (tikM M T n9).1 (tikM M T n9).2 ∧ CapOK v') := by
  refine Cn.of (own := RX4) XC_ok (by decide) rfl (Nat.le_of_ble_eq_true rfl) (fun j C => ?_)
  have C0 := C.to
  show j _ 0 0 0 [(0, _), (1, _)] []
  have hh := ci.1.1
  refine r_iload_n C0 0 1 dX4_tick_0 rfl rfl ?_
  refine r_iconst C0 1 1 dX4_tick_1 (by decide) ?_
  refine r_bipush C0 2 40 dX4_tick_2 (by decide) ?_
  refine s_call (As := [.int _, .int _, .int _]) C0 4 3 (k_X4_isWithin XC_ok _ _ _ _) (rm_X4_isWithin (Nat.le_of_ble_eq_true rfl) (Nat.le_of_ble_eq_true rfl) (Nat.le_of_ble_eq_true rfl) (Nat.le_of_ble_eq_true rfl)) mlX4_49 st_X4_isWithin rfl (Nat.le_of_ble_eq_true rfl) dX4_tick_4 ?_
  rintro _ _ ⟨rfl, rfl⟩
  refine r_if_ne C0 7 12 dX4_tick_7 (by decide) (fun c_7 => ?_) (fun c_7 => ?_)
  · obtain ⟨x, hx, rfl⟩ := inR_1x (n := 40) rfl c_7
    have hcl : (nI x).toNatClampNeg = x := nI_clamp (by omega)
    refine r_iconst C0 12 0 dX4_tick_12 (by decide) ?_
    refine r_istore_n (lv' := [(0, _), (1, _), (2, _)]) C0 13 2 dX4_tick_13 rfl rfl (by decide) rfl ?_
    have key : ∀ i, i ≤ x → (fun i => ∀ (S2 : CS) (v2 : Nat → Nat) (w2 : Nat → Nat → Nat) (Q2 W2 P2 : Nat), CI te a v2 w2 E Q2 W2 P2 O S2 (tikN M T i).1 (tikN M T i).2 → CapOK v2 → j (cW ar S2) (9 * i) (189 * i) 14 [(0, .ref (a 0)), (1, .int (nI x)), (2, .int (nI i))] []) i := by
      refine loopUp (P := x) (f := fun i => ∀ (S2 : CS) (v2 : Nat → Nat) (w2 : Nat → Nat → Nat) (Q2 W2 P2 : Nat), CI te a v2 w2 E Q2 W2 P2 O S2 (tikN M T i).1 (tikN M T i).2 → CapOK v2 → j (cW ar S2) (9 * i) (189 * i) 14 [(0, .ref (a 0)), (1, .int (nI x)), (2, .int (nI i))] []) (fun i hi ih S2 v2 w2 Q2 W2 P2 c2 cp2 => ?_)
      have hh := c2.1.1
      refine r_iload_n C0 14 2 dX4_tick_14 rfl rfl ?_
      refine r_iload_n C0 15 1 dX4_tick_15 rfl rfl ?_
      refine r_icmp_ge C0 16 29 dX4_tick_16 (by decide) (fun c_16 => ?_) (fun c_16 => ?_)
      · have hge : x ≤ i := (nI_leI (by omega) (by omega)).mp c_16
        have e9 : i = x := by omega
        subst e9
        refine r_aload_n C0 29 0 dX4_tick_29 rfl rfl ?_
        refine cgI_40 C0 30 flX4_71 hh dX4_tick_30 ?_
        rw [c2.1.2.2.1]
        refine r_iret C 33 dX4_tick_33 (by show 9 * i ≤ 360; omega) (by show 189 * i ≤ 7560; omega) ?_
        refine ⟨by unfold tikA; rw [if_neg c_7, hcl], S2, v2, w2, Q2, W2, P2, rfl, ?_, cp2⟩
        unfold tikM
        rw [if_neg c_7, hcl]
        exact c2
      · have hlt : i < x := Nat.lt_of_not_le (fun q => c_16 (nI_le q (by omega)))
        refine r_aload_n C0 19 0 dX4_tick_19 rfl rfl ?_
        refine c_call (As := []) C0 20 0 (k_X4_passOneTick c2 cp2 (ti.tik hE i (by omega)) hE (tp.c ((Tt.tik ti.1 hE i).1 3 (by decide)))) (rm_X4_passOneTick (Nat.le_of_ble_eq_true rfl) (Nat.le_of_ble_eq_true rfl) (by show 9 * i + 9 ≤ 360; omega) (by show 189 * i + 189 ≤ 7560; omega)) mlX4_68 im_X4_passOneTick se_X4_passOneTick (by decide) rfl hh rfl (Nat.le_of_ble_eq_true rfl) dX4_tick_20 ?_
        rintro _ _ ⟨rfl, S3, v3, w3, Q3, W3, P3, rfl, c3, cp3⟩
        refine r_iinc (lv' := [(0, _), (1, _), (2, _)]) C0 23 _ dX4_tick_23 rfl rfl rfl (by decide) rfl ?_
        refine r_goto C0 26 14 dX4_tick_26 (by decide) ?_
        have h9 := ih hlt S3 v3 w3 Q3 W3 P3 c3 cp3
        rw [← nI_1 i] at h9
        exact r_widen C0 (9 * (i + 1)) (189 * (i + 1)) (by omega) (by omega) h9
    exact key 0 (Nat.zero_le _) S v w Q W P ci cp
  · refine r_iconst C0 10 (-1) dX4_tick_10 (by decide) ?_
    refine r_iret C 11 dX4_tick_11 (Nat.le_of_ble_eq_true rfl) (Nat.le_of_ble_eq_true rfl) ?_
    refine ⟨by unfold tikA; rw [if_pos c_7], S, v, w, Q, W, P, rfl, ?_, cp⟩
    unfold tikM
    rw [if_pos c_7]
    exact ci
end C37
