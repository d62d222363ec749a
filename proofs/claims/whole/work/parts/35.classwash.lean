/-! the class: bringWashed, feedLine -/
section C35
variable {te : Nat} {S S' : CS} {a v : Nat → Nat} {w : Nat → Nat → Nat} {E Q W P O : Nat} {M N : Nat → Nat → Int32} {T : Int64}
theorem cPr.c (c : cPr a w S M) (h1 : N 16 = M 16) (h2 : N 17 = M 17) (h3 : N 18 = M 18) : cPr a w S N := by
  unfold cPr; rw [h1, h2, h3]; exact c
theorem cPa.c (c : cPa w P S M) (h2 : N 22 = M 22) (h3 : N 23 = M 23) (h4 : N 24 = M 24) (h5 : N 25 = M 25) (h6 : N 26 = M 26) (h7 : N 27 = M 27) (h8 : N 28 = M 28) (h9 : N 29 = M 29) : cPa w P S N := by
  unfold cPa; rw [h2, h3, h4, h5, h6, h7, h8, h9]; exact c
theorem cRe.c (c : cRe a w E P O S M T) (h : ∀ g, g ≠ 8 → g ≠ 9 → g ≠ 11 → g ≠ 12 → g ≠ 13 → N g = M g) : cRe a w E P O S N T := by
  have H : ∀ g, (g ≠ 8 ∧ g ≠ 9 ∧ g ≠ 11 ∧ g ≠ 12 ∧ g ≠ 13) → N g = M g := fun g q => h g q.1 q.2.1 q.2.2.1 q.2.2.2.1 q.2.2.2.2
  obtain ⟨c1, c2, c3, c4, c5, c6, c7, c8⟩ := c
  exact ⟨c1.c (H 35 (by decide)) (H 36 (by decide)) (H 14 (by decide)), c2.c (H 10 (by decide)), c3.c (H 16 (by decide)) (H 17 (by decide)) (H 18 (by decide)), c4.c (H 1 (by decide)) (H 2 (by decide)) (H 6 (by decide)) (H 7 (by decide)) (H 19 (by decide)) (H 20 (by decide)), c5.c (H 22 (by decide)) (H 23 (by decide)) (H 24 (by decide)) (H 25 (by decide)) (H 26 (by decide)) (H 27 (by decide)) (H 28 (by decide)) (H 29 (by decide)), c6.c (H 1 (by decide)) (H 2 (by decide)) (H 3 (by decide)) (H 4 (by decide)) (H 5 (by decide)) (H 6 (by decide)) (H 7 (by decide)), c7.c (H 31 (by decide)) (H 32 (by decide)) (H 33 (by decide)) (H 34 (by decide)), c8.c (H 15 (by decide))⟩
theorem CI.w8 (c : CI te a v w E Q W P O S M T) (rp : Rp S S') {i : Nat} (hi : i < W) : S'.2.2.2.1 8 (w 0 (M 12 i).toNatClampNeg) + 8 = M 13 i := by
  have hl := (c.2.2.1.2.1.2.2.2.2.2 i hi).2
  have hin : w 0 (M 12 i).toNatClampNeg ∈ S.1 := by rcases hl with z | z | z <;> exact z.1
  rw [(rp _ hin).2.2.2.2.2.1 8 (by decide) (by decide)]
  exact c.2.2.1.2.2 i hi
theorem CI.wrem (c : CI te a v w E Q W P O S M T) (ht : te ∉ S.1) (h0 : 0 < W) (rm : RemP S S' (a 2) W (v 2)) : CI te a v w E Q (W - 1) P O S' (drS (up2 M 11 0 (M 11 0 - 1)) (W - 1)) T := by
  have L := c.l4
  have rp : Rp S S' := rm.rp (L.1 2 I2) ht
  have hW := c.2.2.1.1.1
  have re : cRe a w E P O S' (drS (up2 M 11 0 (M 11 0 - 1)) (W - 1)) T := (rp.re c.re).c (fun g h8 h9 h11 h12 h13 => by
    unfold drS
    rw [if_neg h12, if_neg h13, up2_n h11])
  refine CI.asm re (L.rem I2 ht rm h0 rfl ?_ ?_ ?_) c.2.1.1 ⟨by omega, ?_⟩ c.2.2.2.1.1 c.2.2.2.2.1.1 (fun i hi => ?_) c.d3
  · intro k hk
    have hk2 : k < W - 1 := hk
    show w 0 (shf (M 12) (W - 1) k).toNatClampNeg = w 0 (M 12 (k + 1)).toNatClampNeg
    unfold shf
    rw [if_pos hk2]
  · rintro k (rfl | rfl | rfl | rfl) h
    · rfl
    · exact absurd rfl h
    · rfl
    · rfl
  · rintro k (rfl | rfl | rfl | rfl) h m hm
    · exact (show w 0 (M 9 m).toNatClampNeg = w 0 (M 9 m).toNatClampNeg from rfl)
    · exact absurd rfl h
    · exact (show w 1 m = w 1 m from rfl)
    · exact (show w 3 m = w 3 m from rfl)
  · show upd (M 11) 0 (M 11 0 - 1) 0 = nI (W - 1)
    unfold upd
    rw [if_pos rfl]
    exact nI_pr c.2.2.1.1.2 h0
  · show S'.2.2.2.1 8 (w 0 (shf (M 12) (W - 1) i).toNatClampNeg) + 8 = shf (M 13) (W - 1) i
    unfold shf
    rw [if_pos hi, if_pos hi]
    exact c.w8 rp (by omega)
theorem CI.qadd (c : CI te a v w E Q W P O S M T) (hE : E ≤ 600) {e : Nat} (he : e < E) (hQ : Q < 20) (ht : te ∉ S.1) {e' cap' : Nat} (ap : AddP te S S' (a 1) Q (v 1) (v 11) (w 0 e) e' cap') (hc : cap' ≤ 1000) : CI te a (vu v 1 e' cap') w E (Q + 1) W P O S' (up2 (up2 M 9 Q (nI e)) 8 0 (M 8 0 + 1)) T := by
  have L := c.l4
  have rp : Rp S S' := ap.rp (L.1 1 I1) ht
  have eg := c.2.2.2.2.2.2.2.2.2.1
  have re : cRe a w E P O S' (up2 (up2 M 9 Q (nI e)) 8 0 (M 8 0 + 1)) T := (rp.re c.re).c (fun g h8 h9 h11 h12 h13 => by rw [up2_n h8, up2_n h9])
  refine CI.asm re (L.add I1 ht ap (Or.inl (eg e he).1) hc rfl ?_ ?_ ?_ ?_) ⟨by omega, ?_⟩ c.2.2.1.1 c.2.2.2.1.1 c.2.2.2.2.1.1 (fun i hi => ?_) c.d3
  · intro k hk
    show w 0 (upd (M 9) Q (nI e) k).toNatClampNeg = w 0 (M 9 k).toNatClampNeg
    rw [upd_o (Nat.ne_of_lt (show k < Q from hk))]
  · show w 0 (upd (M 9) Q (nI e) Q).toNatClampNeg = w 0 e
    unfold upd
    rw [if_pos rfl, nI_clamp (by omega)]
  · rintro k (rfl | rfl | rfl | rfl) h
    · exact absurd rfl h
    · rfl
    · rfl
    · rfl
  · rintro k (rfl | rfl | rfl | rfl) h m hm
    · exact absurd rfl h
    · exact (show w 0 (M 12 m).toNatClampNeg = w 0 (M 12 m).toNatClampNeg from rfl)
    · exact (show w 1 m = w 1 m from rfl)
    · exact (show w 3 m = w 3 m from rfl)
  · show upd (M 8) 0 (M 8 0 + 1) 0 = nI (Q + 1)
    unfold upd
    rw [if_pos rfl, c.2.1.1.2, nI_1]
  · exact (show S'.2.2.2.1 8 (w 0 (M 12 i).toNatClampNeg) + 8 = M 13 i from c.w8 rp hi)
theorem CI.qrem (c : CI te a v w E Q W P O S M T) (ht : te ∉ S.1) (h0 : 0 < Q) (rm : RemP S S' (a 1) Q (v 1)) : CI te a v w E (Q - 1) W P O S' (fdS (up2 M 8 0 (M 8 0 - 1)) (Q - 1)) T := by
  have L := c.l4
  have rp : Rp S S' := rm.rp (L.1 1 I1) ht
  have hQ := c.2.1.1.1
  have re : cRe a w E P O S' (fdS (up2 M 8 0 (M 8 0 - 1)) (Q - 1)) T := (rp.re c.re).c (fun g h8 h9 h11 h12 h13 => by
    unfold fdS
    rw [if_neg h9, up2_n h8])
  refine CI.asm re (L.rem I1 ht rm h0 rfl ?_ ?_ ?_) ⟨by omega, ?_⟩ c.2.2.1.1 c.2.2.2.1.1 c.2.2.2.2.1.1 (fun i hi => ?_) c.d3
  · intro k hk
    have hk2 : k < Q - 1 := hk
    show w 0 (shf (M 9) (Q - 1) k).toNatClampNeg = w 0 (M 9 (k + 1)).toNatClampNeg
    unfold shf
    rw [if_pos hk2]
  · rintro k (rfl | rfl | rfl | rfl) h
    · exact absurd rfl h
    · rfl
    · rfl
    · rfl
  · rintro k (rfl | rfl | rfl | rfl) h m hm
    · exact absurd rfl h
    · exact (show w 0 (M 12 m).toNatClampNeg = w 0 (M 12 m).toNatClampNeg from rfl)
    · exact (show w 1 m = w 1 m from rfl)
    · exact (show w 3 m = w 3 m from rfl)
  · show upd (M 8) 0 (M 8 0 - 1) 0 = nI (Q - 1)
    unfold upd
    rw [if_pos rfl]
    exact nI_pr c.2.1.1.2 h0
  · exact (show S'.2.2.2.1 8 (w 0 (M 12 i).toNatClampNeg) + 8 = M 13 i from c.w8 rp hi)
/-- the wash's times -/
def WtOK (M : Nat → Nat → Int32) (now : Nat) : Prop := ∀ i, i < (M 11 0).toNatClampNeg → ∃ x : Nat, x ≤ now ∧ M 13 i = nI (x + 8)
theorem dr1_12 : dr1 M 12 = shf (M 12) ((M 11 0).toNatClampNeg - 1) := rfl
theorem dr1_13 : dr1 M 13 = shf (M 13) ((M 11 0).toNatClampNeg - 1) := rfl
theorem dr1_eq {Q W : Nat} (hQ : (M 8 0).toNatClampNeg = Q) (hW : (M 11 0).toNatClampNeg = W) : dr1 M = up2 (up2 (drS (up2 M 11 0 (M 11 0 - 1)) (W - 1)) 9 Q (M 12 0)) 8 0 (drS (up2 M 11 0 (M 11 0 - 1)) (W - 1) 8 0 + 1) := by
  unfold dr1 drQ
  rw [hQ, hW]
  funext g
  by_cases h8 : g = 8
  · subst h8
    rw [up2_s]
    show up2 (up2 (up2 M 9 Q (M 12 0)) 8 0 (M 8 0 + 1)) 11 0 (M 11 0 - 1) 8 = _
    rw [up2_n (by decide), up2_s, up2_n (by decide), up2_n (by decide)]
    rfl
  · rw [up2_n h8]
    by_cases h9 : g = 9
    · subst h9
      rw [up2_s]
      show up2 (up2 (up2 M 9 Q (M 12 0)) 8 0 (M 8 0 + 1)) 11 0 (M 11 0 - 1) 9 = _
      rw [up2_n (by decide), up2_n (by decide), up2_s]
      rfl
    · rw [up2_n h9]
      unfold drS
      by_cases h12 : g = 12
      · rw [if_pos h12, if_pos h12, up2_n (by decide), up2_n (by decide), up2_n (by decide), up2_n (by decide)]
      · rw [if_neg h12, if_neg h12]
        by_cases h13 : g = 13
        · rw [if_pos h13, if_pos h13, up2_n (by decide), up2_n (by decide), up2_n (by decide), up2_n (by decide)]
        · rw [if_neg h13, if_neg h13]
          by_cases h11 : g = 11
          · subst h11
            rw [up2_s, up2_s, up2_n (by decide), up2_n (by decide)]
          · rw [up2_n h11, up2_n h8, up2_n h9, up2_n h11]
theorem WtOK.d1 {now : Nat} (h : WtOK M now) {W : Nat} (hW : M 11 0 = nI W) (hW3 : W ≤ 30) (h0 : 0 < W) : WtOK (dr1 M) now := by
  have hc : (M 11 0).toNatClampNeg = W := by rw [hW]; exact nI_clamp (by omega)
  have h11 : dr1 M 11 0 = nI (W - 1) := by
    show upd (M 11) 0 (M 11 0 - 1) 0 = _
    unfold upd
    rw [if_pos rfl]
    exact nI_pr hW h0
  intro i hi
  rw [h11, nI_clamp (by omega)] at hi
  rw [dr1_13, hc]
  unfold shf
  rw [if_pos hi]
  exact h (i + 1) (by rw [hc]; omega)
def gC (c : Nat) : Nat := if c = 0 then 3 else if c = 10 then 2 else if c = 15 then 1 else 0
def gS (c : Nat) : Nat := if c = 0 then 47 else if c = 10 then 37 else if c = 15 then 22 else 0
theorem gCS {c : Nat} (h : c = 0 ∨ c = 10 ∨ c = 15) : gC (ncap c) + 1 = gC c ∧ gS (ncap c) + ncap c = gS c := by
  rcases h with rfl | rfl | rfl <;> decide
theorem gC_le (c : Nat) : gC c ≤ 3 ∧ gS c ≤ 47 := by
  unfold gC gS
  by_cases h1 : c = 0
  · rw [if_pos h1, if_pos h1]; exact ⟨by decide, by decide⟩
  · rw [if_neg h1, if_neg h1]
    by_cases h2 : c = 10
    · rw [if_pos h2, if_pos h2]; exact ⟨by decide, by decide⟩
    · rw [if_neg h2, if_neg h2]
      by_cases h3 : c = 15
      · rw [if_pos h3, if_pos h3]; exact ⟨by decide, by decide⟩
      · rw [if_neg h3, if_neg h3]; exact ⟨by decide, by decide⟩
theorem due {now x : Nat} (hn : now ≤ 30000) (hx : x ≤ now) : 8 ≤ nI now - nI x ↔ ¬ nI now < nI (x + 8) := by
  rw [pk_sub hx]
  constructor
  · intro h q
    have h1 := (nI_leI (a := 8) (by omega) (by omega)).mp h
    have h2 := (nI_ltI (by omega) (by omega)).mp q
    omega
  · intro h
    refine nI_le (a := 8) ?_ (by omega)
    exact Nat.le_of_not_lt (fun q => h (nI_lt (by omega) (by omega)))
theorem fd_eq {Q : Nat} (hQ : (M 8 0).toNatClampNeg = Q) (h0 : ¬ M 8 0 ≤ 0) : fdM M = up2 (fdS (up2 M 8 0 (M 8 0 - 1)) (Q - 1)) 10 0 (M 9 0 + 1) := by
  unfold fdM
  rw [if_neg h0, hQ]
  funext g
  by_cases h10 : g = 10
  · subst h10
    rw [up2_s]
    show up2 (up2 M 10 0 (M 9 0 + 1)) 8 0 (M 8 0 - 1) 10 = _
    rw [up2_n (by decide), up2_s]
    rfl
  · rw [up2_n h10]
    unfold fdS
    by_cases h9 : g = 9
    · rw [if_pos h9, if_pos h9, up2_n (by decide), up2_n (by decide), up2_n (by decide)]
    · rw [if_neg h9, if_neg h9]
      by_cases h8 : g = 8
      · subst h8
        rw [up2_s, up2_s, up2_n (by decide)]
      · rw [up2_n h8, up2_n h10, up2_n h8]
theorem drN_0 {n : Nat} (h : M 11 0 ≤ 0 ∨ M 35 0 < M 13 0 ∨ 20 ≤ M 8 0) : drN n M = M := by
  cases n with
  | zero => rfl
  | succ n =>
    show (if M 11 0 ≤ 0 then M else if M 35 0 < M 13 0 then M else if 20 ≤ M 8 0 then M else drN n (dr1 M)) = M
    by_cases h1 : M 11 0 ≤ 0
    · rw [if_pos h1]
    · rw [if_neg h1]
      by_cases h2 : M 35 0 < M 13 0
      · rw [if_pos h2]
      · rw [if_neg h2]
        rcases h with h | h | h
        · exact absurd h h1
        · exact absurd h h2
        · rw [if_pos h]
theorem drN_s {n : Nat} (h1 : ¬ M 11 0 ≤ 0) (h2 : ¬ M 35 0 < M 13 0) (h3 : ¬ 20 ≤ M 8 0) : drN (n + 1) M = drN n (dr1 M) := by
  show (if M 11 0 ≤ 0 then M else if M 35 0 < M 13 0 then M else if 20 ≤ M 8 0 then M else drN n (dr1 M)) = _
  rw [if_neg h1, if_neg h2, if_neg h3]
end C35
section C35b
variable {D : va_G} {ar : Nat → ClassId} {tg te mi : Nat} {S : CS}
variable {a v : Nat → Nat} {w : Nat → Nat → Nat} {E Q W P O : Nat} {M : Nat → Nat → Int32} {T : Int64}
set_option maxRecDepth 100000 in
theorem k_X4_bringWashed (ci : CI te a v w E Q W P O S M T) (cp : CapOK v) (ok : OKM M E) (hE : E ≤ 600) {now : Nat} (hnow : M 35 0 = nI now) (hnb : now ≤ 30000) (wt : WtOK M now)  : Cn D ar (XC tg te mi) yX4_bringWashed cX4_bringWashed 2 none 7 183 3 47 [.ref (a 0)] (cW ar S) (fun r w9 => r = none ∧ ∃ (S' : CS) (v' : Nat → Nat) (Q' W' : Nat), w9 = cW ar S' ∧ CI te a v' w E Q' W' P O S' (drN 30 M) T ∧ CapOK v') := by
  refine Cn.of (own := RX4) XC_ok (by decide) rfl (Nat.le_of_ble_eq_true rfl) (fun j C => ?_)
  have C0 := C.to
  show j _ 0 0 0 [(0, _)] []
  suffices key : ∀ i, i ≤ 30 → (fun i => ∀ (S2 : CS) (v2 : Nat → Nat) (Q2 W2 : Nat) (N : Nat → Nat → Int32) (k n : Nat), CI te a v2 w E Q2 W2 P O S2 N T → CapOK v2 → OKM N E → N 35 0 = nI now → WtOK N now → drN (30 - i) N = drN 30 M → k + gC (v2 11) ≤ 3 → n + gS (v2 11) ≤ 47 → j (cW ar S2) k n 2 [(0, .ref (a 0)), (1, .int (nI i))] []) i by
    refine r_iconst C0 0 0 dX4_bringWashed_0 (by decide) ?_
    refine r_istore_n (lv' := [(0, _), (1, _)]) C0 1 1 dX4_bringWashed_1 rfl rfl (by decide) rfl ?_
    exact key 0 (by decide) S v Q W M 0 0 ci cp ok hnow wt rfl (by have := (gC_le (v 11)).1; omega) (by have := (gC_le (v 11)).2; omega)
  refine loopUp (P := 30) (f := fun i => ∀ (S2 : CS) (v2 : Nat → Nat) (Q2 W2 : Nat) (N : Nat → Nat → Int32) (k n : Nat), CI te a v2 w E Q2 W2 P O S2 N T → CapOK v2 → OKM N E → N 35 0 = nI now → WtOK N now → drN (30 - i) N = drN 30 M → k + gC (v2 11) ≤ 3 → n + gS (v2 11) ≤ 47 → j (cW ar S2) k n 2 [(0, .ref (a 0)), (1, .int (nI i))] []) (fun i hi ih S2 v2 Q2 W2 N k n c2 cp2 okN hnN wtN hd hk hn => ?_)
  have hs := c2.1
  have qu := c2.2.1
  have wa := c2.2.2.1
  have eg := c2.2.2.2.2.2.2.2.2.2.1
  have hQ2 := qu.1.1
  have hW2 := wa.1.1
  have hcW : (N 11 0).toNatClampNeg = W2 := by rw [wa.1.2]; exact nI_clamp (by omega)
  have hcQ : (N 8 0).toNatClampNeg = Q2 := by rw [qu.1.2]; exact nI_clamp (by omega)
  have stay : (N 11 0 ≤ 0 ∨ N 35 0 < N 13 0 ∨ 20 ≤ N 8 0) → drN 30 M = N := fun q => by rw [← hd]; exact drN_0 q
  refine r_iload_n C0 2 1 dX4_bringWashed_2 rfl rfl ?_
  refine r_bipush C0 3 30 dX4_bringWashed_3 (by decide) ?_
  refine r_icmp_ge C0 5 81 dX4_bringWashed_5 (by decide) (fun c_5 => ?_) (fun c_5 => ?_)
  · have hge : 30 ≤ i := (nI_leI (a := 30) (by omega) (by omega)).mp c_5
    refine r_vret C 81 dX4_bringWashed_81 (by show _ ≤ 3; omega) (by show _ ≤ 47; omega) ?_
    have e9 : 30 - i = 0 := by omega
    rw [e9] at hd
    exact ⟨rfl, S2, v2, Q2, W2, rfl, by rw [← hd]; exact c2, cp2⟩
  · have hlt : i < 30 := Nat.lt_of_not_le (fun q => c_5 (nI_le (a := 30) q (by omega)))
    refine r_aload_n C0 8 0 dX4_bringWashed_8 rfl rfl ?_
    refine cgR_2 C0 9 hs.2.1.2.1 flX4_16 hs.1 dX4_bringWashed_9 ?_
    refine c_call (As := []) C0 12 0 (k_Jx4a65c_isEmpty_aae02 XC_ok wa.2.1.1) (rm_Jx4a65c_isEmpty_aae02 (by decide) (by decide) (by show _ ≤ 3; omega) (by show _ ≤ 47; omega)) mlX4_281 im_Jx4a65c_isEmpty_aae02 se_Jx4a65c_isEmpty_aae02 (by decide) rfl wa.2.1.1 rfl (Nat.le_of_ble_eq_true rfl) dX4_bringWashed_12 ?_
    rintro _ _ ⟨rfl, rfl⟩
    rw [wa.2.1.2.1]
    refine r_if_ne C0 15 30 dX4_bringWashed_15 (by decide) (fun c_15 => ?_) (fun c_15 => ?_)
    · refine r_vret C 30 dX4_bringWashed_30 (by show _ ≤ 3; omega) (by show _ ≤ 47; omega) ?_
      have h0 : W2 = 0 := Classical.byContradiction (fun q => c_15 (if_neg (nI_ne0 (by omega) (by omega))))
      exact ⟨rfl, S2, v2, Q2, W2, rfl, by rw [stay (Or.inl (by rw [wa.1.2, h0]; decide))]; exact c2, cp2⟩
    · refine r_aload_n C0 18 0 dX4_bringWashed_18 rfl rfl ?_
      refine cgR_1 C0 19 hs.2.1.1 flX4_10 hs.1 dX4_bringWashed_19 ?_
      refine c_call (As := []) C0 22 0 (k_Jx4a65c_size_8abf5 XC_ok qu.2.1) (rm_Jx4a65c_size_8abf5 (by decide) (by decide) (by show _ ≤ 3; omega) (by show _ ≤ 47; omega)) mlX4_53 im_Jx4a65c_size_8abf5 se_Jx4a65c_size_8abf5 (by decide) rfl qu.2.1 rfl (Nat.le_of_ble_eq_true rfl) dX4_bringWashed_22 ?_
      rintro _ _ ⟨rfl, rfl⟩
      rw [qu.2.2.1]
      refine r_bipush C0 25 20 dX4_bringWashed_25 (by decide) ?_
      refine r_icmp_lt C0 27 31 dX4_bringWashed_27 (by decide) (fun c_27 => ?_) (fun c_27 => ?_)
      · have hW0 : 0 < W2 := Nat.pos_of_ne_zero (fun q => absurd c_15 (by rw [q]; decide))
        have hQl : Q2 < 20 := Nat.lt_of_not_le (fun q => absurd c_27 (Int32.not_lt.mpr (nI_le (a := 20) q (by omega))))
        obtain ⟨e0, he0, ee0⟩ := c2.we okN 0 hW0
        have hf0 : w 0 (N 12 0).toNatClampNeg = w 0 e0 := by rw [ee0, nI_clamp (by omega)]
        obtain ⟨x, hxn, hx13⟩ := wtN 0 (by rw [hcW]; exact hW0)
        have hx8 : S2.2.2.2.1 8 (w 0 e0) = nI x := by
          have h9 := wa.2.2 0 hW0
          rw [hf0, hx13, ← nI_add] at h9
          exact (Int32.add_left_inj 8).mp h9
        have hdue : (8 ≤ N 35 0 - nI x) ↔ ¬ N 35 0 < N 13 0 := by rw [hnN, hx13]; exact due hnb hxn
        refine r_aload_n C0 31 0 dX4_bringWashed_31 rfl rfl ?_
        refine cgI_40 C0 32 flX4_71 hs.1 dX4_bringWashed_32 ?_
        rw [hs.2.2.1]
        refine r_aload_n C0 35 0 dX4_bringWashed_35 rfl rfl ?_
        refine cgR_2 C0 36 hs.2.1.2.1 flX4_16 hs.1 dX4_bringWashed_36 ?_
        refine r_iconst C0 39 0 dX4_bringWashed_39 (by decide) ?_
        refine c_call (As := [.int _]) C0 40 1 (k_Jx4a65c_get_915e3 (x := 0) XC_ok wa.2.1 hW0) (rm_Jx4a65c_get_915e3 (by decide) (by decide) (by show _ ≤ 3; omega) (by show _ ≤ 47; omega)) mlX4_137 im_Jx4a65c_get_915e3 se_Jx4a65c_get_915e3 (by decide) rfl wa.2.1.1 rfl (Nat.le_of_ble_eq_true rfl) dX4_bringWashed_40 ?_
        rintro r9 _ ⟨hr, rfl⟩
        have hr2 : r9 = some (.ref (w 0 e0)) := hr.trans (congrArg (fun x => some (Value.ref x)) hf0)
        subst hr2
        refine ca_cast C0 43 (by decide) rfl clX4_19 (eg e0 he0).1 dX4_bringWashed_43 ?_
        refine cgI_8 C0 46 flX4_264 (eg e0 he0).1 dX4_bringWashed_46 ?_
        rw [hx8]
        refine r_isub C0 49 dX4_bringWashed_49 ?_
        refine r_bipush C0 50 8 dX4_bringWashed_50 (by decide) ?_
        refine r_icmp_ge C0 52 56 dX4_bringWashed_52 (by decide) (fun c_52 => ?_) (fun c_52 => ?_)
        · have hnd : ¬ N 35 0 < N 13 0 := hdue.mp c_52
          have h11 : ¬ N 11 0 ≤ 0 := by rw [wa.1.2]; exact nI_nle hW0 (by omega)
          have h8 : ¬ 20 ≤ N 8 0 := by rw [qu.1.2]; exact Int32.not_le.mpr c_27
          refine ca_teN C0 (fun hte => ?_)
          refine r_aload_n C0 56 0 dX4_bringWashed_56 rfl rfl ?_
          refine cgR_1 C0 57 hs.2.1.1 flX4_10 hs.1 dX4_bringWashed_57 ?_
          refine r_aload_n C0 60 0 dX4_bringWashed_60 rfl rfl ?_
          refine cgR_2 C0 61 hs.2.1.2.1 flX4_16 hs.1 dX4_bringWashed_61 ?_
          refine r_iconst C0 64 0 dX4_bringWashed_64 (by decide) ?_
          refine c_call (As := [.int _]) C0 65 1 (k_Jx4a65c_remove_915e3 wa.2.1 hW0) (rm_Jx4a65c_remove_915e3 (by decide) (by decide) (by show _ ≤ 3; omega) (by show _ ≤ 47; omega)) mlX4_285 im_Jx4a65c_remove_915e3 se_Jx4a65c_remove_915e3 (by decide) rfl wa.2.1.1 rfl (Nat.le_of_ble_eq_true rfl) dX4_bringWashed_65 ?_
          rintro r9 _ ⟨hr, S3, rfl, rm⟩
          have hr2 : r9 = some (.ref (w 0 e0)) := hr.trans (congrArg (fun x => some (Value.ref x)) hf0)
          subst hr2
          have c3 := c2.wrem hte hW0 rm
          have eg3 := (c3.2.2.2.2.2.2.2.2.2.1 e0 he0).1
          have hte3 : te ∉ S3.1 := by rw [rm.1]; exact hte
          have qu3 := c3.2.1
          have hdr : dr1 N = up2 (up2 (drS (up2 N 11 0 (N 11 0 - 1)) (W2 - 1)) 9 Q2 (nI e0)) 8 0 (drS (up2 N 11 0 (N 11 0 - 1)) (W2 - 1) 8 0 + 1) := by rw [dr1_eq hcQ hcW, ee0]
          refine ca_cast C0 68 (by decide) rfl clX4_19 eg3 dX4_bringWashed_68 ?_
          by_cases hf : Q2 < v2 11
          · refine c_call (As := [.ref _]) C0 71 1 (k_addR qu3.2 hf (Or.inl eg3)) (rm_Jx4a65c_add_9ea2d (by decide) (by decide) (by show _ ≤ 3; omega) (by show _ ≤ 47; omega)) mlX4_64 im_Jx4a65c_add_9ea2d se_Jx4a65c_add_9ea2d (by decide) rfl qu3.2.1 rfl (Nat.le_of_ble_eq_true rfl) dX4_bringWashed_71 ?_
            rintro _ _ ⟨rfl, S4, e', cap', rfl, ap⟩
            have hcc : cap' = v2 11 := by
              rcases ap.2.2.2.2.2.2.1 with ⟨-, z, -⟩ | ⟨-, z, -⟩
              · exact z
              · omega
            have hv : vu v2 1 e' cap' 11 = cap' := vu_c (i := 1)
            have c4 := c3.qadd hE he0 hQl hte3 ap (cap1 (e' := e') cp2 (n := Q2) (by omega) ap.cap).1
            refine r_pop C0 74 dX4_bringWashed_74 rfl ?_
            refine r_iinc (lv' := [(0, _), (1, _)]) C0 75 _ dX4_bringWashed_75 rfl rfl rfl (by decide) rfl ?_
            refine r_goto C0 78 2 dX4_bringWashed_78 (by decide) ?_
            have h9 := ih hlt S4 (vu v2 1 e' cap') (Q2 + 1) (W2 - 1) (dr1 N) k n (by rw [hdr]; exact c4) (cap1 cp2 (n := Q2) (by omega) ap.cap).2 (okN.d1 h11 h8) (show N 35 0 = nI now from hnN) (wtN.d1 wa.1.2 hW2 hW0) (by rw [← hd, show 30 - i = 30 - (i + 1) + 1 by omega]; exact (drN_s h11 hnd h8).symm) (by rw [hv, hcc]; omega) (by rw [hv, hcc]; omega)
            rw [← nI_1 i] at h9
            exact h9
          · have hv1 : Q2 = v2 11 := by
              have := qu.2.2.2.2.1.1
              omega
            have hcv : v2 11 = 0 ∨ v2 11 = 10 ∨ v2 11 = 15 := by
              rcases cp2.1 with z | z | z | z
              · exact Or.inl z
              · exact Or.inr (Or.inl z)
              · exact Or.inr (Or.inr z)
              · omega
            obtain ⟨hg1, hg2⟩ := gCS hcv
            have Lf : LsA te S3 (a 1) (v2 11) (v2 1) (v2 11) (fun i => w 0 (drS (up2 N 11 0 (N 11 0 - 1)) (W2 - 1) 9 i).toNatClampNeg) := by
              have l := qu3.2
              rw [hv1] at l
              exact l
            refine c_call (As := [.ref _]) C0 71 1 (k_addF Lf (Or.inl eg3)) (rm_Jx4a65c_add_9ea2d (by decide) (by decide) (by show _ ≤ 3; omega) (by show _ ≤ 47; omega)) mlX4_64 im_Jx4a65c_add_9ea2d se_Jx4a65c_add_9ea2d (by decide) rfl qu3.2.1 rfl (Nat.le_of_ble_eq_true rfl) dX4_bringWashed_71 ?_
            rintro _ _ ⟨rfl, S4, e', cap', rfl, ap⟩
            replace ap : AddP te S3 S4 (a 1) Q2 (v2 1) (v2 11) (w 0 e0) e' cap' := by rw [hv1]; exact ap
            have hcc : cap' = ncap (v2 11) := by
              rcases ap.2.2.2.2.2.2.1 with ⟨-, -, z⟩ | ⟨-, -, z⟩
              · omega
              · exact z
            have hv : vu v2 1 e' cap' 11 = cap' := vu_c (i := 1)
            have c4 := c3.qadd hE he0 hQl hte3 ap (cap1 (e' := e') cp2 (n := Q2) (by omega) ap.cap).1
            refine r_pop C0 74 dX4_bringWashed_74 rfl ?_
            refine r_iinc (lv' := [(0, _), (1, _)]) C0 75 _ dX4_bringWashed_75 rfl rfl rfl (by decide) rfl ?_
            refine r_goto C0 78 2 dX4_bringWashed_78 (by decide) ?_
            have h9 := ih hlt S4 (vu v2 1 e' cap') (Q2 + 1) (W2 - 1) (dr1 N) (k + 1) (n + ncap (v2 11)) (by rw [hdr]; exact c4) (cap1 cp2 (n := Q2) (by omega) ap.cap).2 (okN.d1 h11 h8) (show N 35 0 = nI now from hnN) (wtN.d1 wa.1.2 hW2 hW0) (by rw [← hd, show 30 - i = 30 - (i + 1) + 1 by omega]; exact (drN_s h11 hnd h8).symm) (by rw [hv, hcc]; omega) (by rw [hv, hcc]; omega)
            rw [← nI_1 i] at h9
            exact h9
        · refine r_vret C 55 dX4_bringWashed_55 (by show _ ≤ 3; omega) (by show _ ≤ 47; omega) ?_
          have h0 : N 35 0 < N 13 0 := Classical.byContradiction (fun q => c_52 (hdue.mpr q))
          exact ⟨rfl, S2, v2, Q2, W2, rfl, by rw [stay (Or.inr (Or.inl h0))]; exact c2, cp2⟩
      · refine r_vret C 30 dX4_bringWashed_30 (by show _ ≤ 3; omega) (by show _ ≤ 47; omega) ?_
        have h0 : 20 ≤ N 8 0 := by rw [qu.1.2]; exact Int32.not_lt.mp c_27
        exact ⟨rfl, S2, v2, Q2, W2, rfl, by rw [stay (Or.inr (Or.inr h0))]; exact c2, cp2⟩
set_option maxRecDepth 100000 in
theorem k_X4_feedLine (ci : CI te a v w E Q W P O S M T) (ok : OKM M E) (hE : E ≤ 600) (h10 : M 10 0 = 0)  : Cn D ar (XC tg te mi) yX4_feedLine cX4_feedLine 1 none 3 86 0 0 [.ref (a 0)] (cW ar S) (fun r w9 => r = none ∧ ∃ (S' : CS) (Q' : Nat), w9 = cW ar S' ∧ CI te a v w E Q' W P O S' (fdM M) T) := by
  refine Cn.of (own := RX4) XC_ok (by decide) rfl (Nat.le_of_ble_eq_true rfl) (fun j C => ?_)
  have C0 := C.to
  show j _ 0 0 0 [(0, _)] []
  have hs := ci.1
  have qu := ci.2.1
  have ln := ci.2.2.2.2.2.1
  have hQ2 := qu.1.1
  have hcQ : (M 8 0).toNatClampNeg = Q := by rw [qu.1.2]; exact nI_clamp (by omega)
  have lnP := ln.1
  refine r_aload_n C0 0 0 dX4_feedLine_0 rfl rfl ?_
  refine cgR_3 C0 1 hs.2.1.2.2.1 flX4_21 hs.1 dX4_feedLine_1 ?_
  refine r_iconst C0 4 0 dX4_feedLine_4 (by decide) ?_
  refine ca_ald C0 5 0 (by decide) lnP rfl (by rw [ln.2.1]; decide) (by rw [ln.2.1]; decide) (by rw [ln.2.2 0 (by decide), if_pos h10]) dX4_feedLine_5 ?_
  refine r_ifnonnullN C0 6 dX4_feedLine_6 ?_
  refine r_aload_n C0 9 0 dX4_feedLine_9 rfl rfl ?_
  refine cgR_1 C0 10 hs.2.1.1 flX4_10 hs.1 dX4_feedLine_10 ?_
  refine c_call (As := []) C0 13 0 (k_Jx4a65c_isEmpty_aae02 XC_ok qu.2.1) (rm_Jx4a65c_isEmpty_aae02 (by decide) (by decide) (Nat.le_refl _) (Nat.le_refl _)) mlX4_281 im_Jx4a65c_isEmpty_aae02 se_Jx4a65c_isEmpty_aae02 (by decide) rfl qu.2.1 rfl (Nat.le_of_ble_eq_true rfl) dX4_feedLine_13 ?_
  rintro _ _ ⟨rfl, rfl⟩
  rw [qu.2.2.1]
  refine r_if_ne C0 16 36 dX4_feedLine_16 (by decide) (fun c_16 => ?_) (fun c_16 => ?_)
  · refine r_vret C 36 dX4_feedLine_36 (Nat.le_refl _) (Nat.le_refl _) ?_
    have h0 : Q = 0 := Classical.byContradiction (fun q => c_16 (if_neg (nI_ne0 (by omega) (by omega))))
    exact ⟨rfl, S, Q, rfl, by rw [show fdM M = M from if_pos (by rw [qu.1.2, h0]; decide)]; exact ci⟩
  · have hQ0 : 0 < Q := Nat.pos_of_ne_zero (fun q => absurd c_16 (by rw [q]; decide))
    obtain ⟨e0, he0, ee0⟩ := ci.qe ok 0 hQ0
    have hf0 : w 0 (M 9 0).toNatClampNeg = w 0 e0 := by rw [ee0, nI_clamp (by omega)]
    refine ca_teN C0 (fun hte => ?_)
    refine r_aload_n C0 19 0 dX4_feedLine_19 rfl rfl ?_
    refine cgR_3 C0 20 hs.2.1.2.2.1 flX4_21 hs.1 dX4_feedLine_20 ?_
    refine r_iconst C0 23 0 dX4_feedLine_23 (by decide) ?_
    refine r_aload_n C0 24 0 dX4_feedLine_24 rfl rfl ?_
    refine cgR_1 C0 25 hs.2.1.1 flX4_10 hs.1 dX4_feedLine_25 ?_
    refine r_iconst C0 28 0 dX4_feedLine_28 (by decide) ?_
    refine c_call (As := [.int _]) C0 29 1 (k_Jx4a65c_remove_915e3 qu.2 hQ0) (rm_Jx4a65c_remove_915e3 (by decide) (by decide) (Nat.le_refl _) (Nat.le_refl _)) mlX4_285 im_Jx4a65c_remove_915e3 se_Jx4a65c_remove_915e3 (by decide) rfl qu.2.1 rfl (Nat.le_of_ble_eq_true rfl) dX4_feedLine_29 ?_
    rintro r9 _ ⟨hr, S3, rfl, rm⟩
    have hr2 : r9 = some (.ref (w 0 e0)) := hr.trans (congrArg (fun x => some (Value.ref x)) hf0)
    subst hr2
    have c3 := ci.qrem hte hQ0 rm
    have lnP := c3.2.2.2.2.2.1.1
    have eg3 := (c3.2.2.2.2.2.2.2.2.2.1 e0 he0).1
    refine ca_cast C0 32 (by decide) rfl clX4_19 eg3 dX4_feedLine_32 ?_
    refine ca_astE C0 35 0 lnP eg3 rfl (by rw [c3.2.2.2.2.2.1.2.1]; decide) (by rw [c3.2.2.2.2.2.1.2.1]; decide) dX4_feedLine_35 ?_
    refine r_vret C 36 dX4_feedLine_36 (Nat.le_refl _) (Nat.le_refl _) ?_
    have h8 : ¬ M 8 0 ≤ 0 := by rw [qu.1.2]; exact nI_nle hQ0 (by omega)
    have h91 : M 9 0 + 1 = nI (e0 + 1) := by rw [ee0, nI_1]
    exact ⟨rfl, _, Q - 1, rfl, by rw [fd_eq hcQ h8]; exact c3.line (by rw [h91, if_neg (nI_ne0 (by omega) (by omega)), nI_pred, nI_clamp (by omega)])⟩
end C35b
