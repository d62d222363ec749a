/-! the class: takes, closeTray, letTake -/
section C33
variable {te : Nat} {S S' : CS} {a v : Nat → Nat} {w : Nat → Nat → Nat} {E Q W P O : Nat} {M N : Nat → Nat → Int32} {T : Int64}
/-- the new pack and its packer -/
abbrev nwS (S : CS) (q pk : Nat) : CS := uR (uI (nO S q 2) 27 q (-9)) 0 pk (some q)
abbrev wcl (w : Nat → Nat → Nat) (P p q : Nat) : Nat → Nat → Nat := wu (wu w 1 P (w 2 p)) 2 p q
theorem wcl_0 {p q : Nat} : wcl w P p q 0 = w 0 := by unfold wcl; rw [wu_n (by decide), wu_n (by decide)]
theorem wcl_3 {p q : Nat} : wcl w P p q 3 = w 3 := by unfold wcl; rw [wu_n (by decide), wu_n (by decide)]
theorem wcl_1e {p q : Nat} : wcl w P p q 1 P = w 2 p := by unfold wcl; rw [wu_n (by decide), wu_e]
theorem wcl_1o {p q i : Nat} (h : i ≠ P) : wcl w P p q 1 i = w 1 i := by unfold wcl; rw [wu_n (by decide), wu_o h]
theorem wcl_2e {p q : Nat} : wcl w P p q 2 p = q := by unfold wcl; rw [wu_e]
theorem wcl_2o {p q i : Nat} (h : i ≠ p) : wcl w P p q 2 i = w 2 i := by unfold wcl; rw [wu_o h, wu_n (by decide)]
theorem L4.uR0 {n : Nat → Nat} {f : Nat → Nat → Nat} {x : Nat} {y : Option Nat} (L : L4 te a v S n f) : L4 te a v (uR S 0 x y) n f := ⟨fun i hi => by
  obtain ⟨l1, l2, l3, l4, l5, l6⟩ := L.1 i hi
  refine ⟨l1, l2, ?_, l4, l5, l6⟩
  show upr S.2.2.2.2.1 0 x y 8 (a i) = _
  rw [upr_n (by decide)]; exact l3, L.2⟩
theorem L4.uI {n : Nat → Nat} {f : Nat → Nat → Nat} {g x : Nat} {y : Int32} (L : L4 te a v S n f) (hg : g ≠ 51) : L4 te a v (uI S g x y) n f := ⟨fun i hi => by
  obtain ⟨l1, l2, l3, l4, l5, l6⟩ := L.1 i hi
  refine ⟨l1, ?_, l3, l4, l5, l6⟩
  show up2 S.2.2.2.1 g x y 51 (a i) = _
  rw [up2_n hg.symm]; exact l2, L.2⟩
theorem L4.addP {w' : Nat → Nat → Nat} (L : L4 te a v S (nn Q W P O) (ff M w)) {x e' cap' : Nat} (ht : te ∉ S.1) (ap : AddP te S S' (a 5) P (v 5) (v 15) x e' cap') (hx : El S x) (hc : cap' ≤ 1000) (h9 : N 9 = M 9) (h12 : N 12 = M 12) (w0 : w' 0 = w 0) (w3 : w' 3 = w 3) (w1 : ∀ k, k < P → w' 1 k = w 1 k) (w1e : w' 1 P = x) : L4 te a (vu v 5 e' cap') S' (nn Q W (P + 1) O) (ff N w') := by
  refine L.add I5 ht ap hx hc rfl (fun k hk => w1 k hk) w1e ?_ ?_
  · rintro k (rfl | rfl | rfl | rfl) h
    · rfl
    · rfl
    · exact absurd rfl h
    · rfl
  · rintro k (rfl | rfl | rfl | rfl) h m hm
    · show w' 0 (N 9 m).toNatClampNeg = w 0 (M 9 m).toNatClampNeg
      rw [w0, h9]
    · show w' 0 (N 12 m).toNatClampNeg = w 0 (M 12 m).toNatClampNeg
      rw [w0, h12]
    · exact absurd rfl h
    · show w' 3 m = w 3 m
      rw [w3]
theorem CI.close (c : CI te a v w E Q W P O S M T) {p q : Nat} (hp : p < 4) (hP : P < 60) (h6 : M 19 p = nI 6) (ht : te ∉ S.1) {e' cap' : Nat} (ap : AddP te (uI S 20 (w 2 p) (M 16 p)) S' (a 5) P (v 5) (v 15) (w 2 p) e' cap') (hc : cap' ≤ 1000) (hq : q ∉ S'.1) : CI te a (vu v 5 e' cap') (wcl w P p q) E Q W (P + 1) O (nwS S' q (a (20 + p))) (pkM M p P) T := by
  have d3 := c.d3
  have we := c.2.2.1
  have pr0 := c.2.2.2.2.2.2.1.2.2
  have L : L4 te a v (uI S 20 (w 2 p) (M 16 p)) (nn Q W P O) (ff M w) := c.l4.uI (by decide)
  have rp1 : Rp (uI S 20 (w 2 p) (M 16 p)) S' := ap.rp (L.1 5 I5) ht
  have rx : Rx S' (uI (nO S' q 2) 27 q (-9)) := (Rx.new hq).uI hq
  have rp : Rp (uI S 20 (w 2 p) (M 16 p)) (uI (nO S' q 2) 27 q (-9)) := rp1.t rx.rp
  have re1 : cRe a w E P O (uI S 20 (w 2 p) (M 16 p)) M T := by
    obtain ⟨c1, c2, c3, c4, c5, c6, c7, c8⟩ := c.re
    refine ⟨c1, c2, c3, c4, fun i hi => ?_, c6, c7, c8⟩
    obtain ⟨z1, z2, z3⟩ := c5 i hi
    exact ⟨z1, (show up2 S.2.2.2.1 20 (w 2 p) (M 16 p) 20 (w 1 i) = M 22 i from (up2_o (d3.2.2.2.1 i p hi hp)).trans z2), z3⟩
  obtain ⟨c1, c2, c3, c4, c5, c6, c7, c8⟩ := rp.re re1
  have hin : ∀ r, r < 4 → w 2 r ∈ S'.1 := fun r hr => (rp1 _ (pr0 r hr).2.2.2.2.2.2.2.1).1
  have hin1 : ∀ i, i < P → w 1 i ∈ S'.1 := fun i hi => (rp1 _ (re1.2.2.2.2.1 i hi).1.1).1
  have LA := rx.l4 (L.addP (N := pkM M p P) (w' := wcl w P p q) ht ap (Or.inr (Or.inr (pr0 p hp).2.2.2.2.2.2.2)) hc pkM_9 pkM_12 wcl_0 wcl_3 (fun k hk => wcl_1o (Nat.ne_of_lt hk)) wcl_1e)
  have LB : L4 te a (vu v 5 e' cap') (nwS S' q (a (20 + p))) (nn Q W (P + 1) O) (ff (pkM M p P) (wcl w P p q)) := LA.uR0
  refine CI.asm ⟨?_, ?_, ?_, ?_, ?_, ?_, ?_, ?_⟩ LB ?_ ?_ ?_ ?_ ?_ ⟨?_, ?_, ?_, ?_, ?_, ?_, ?_⟩
  · exact cHs.c (N := pkM M p P) (S := nwS S' q (a (20 + p))) c1 pkM_35 pkM_36 pkM_14
  · have c2' : cLn a w (nwS S' q (a (20 + p))) M := c2
    have := cLn.c (N := pkM M p P) c2' pkM_10
    unfold cLn at this ⊢
    rw [wcl_0]; exact this
  · refine ⟨c3.1, c3.2.1, fun r hr => ?_⟩
    obtain ⟨z1, z2, z3, z4, z5, z6, z7, z8⟩ := c3.2.2 r hr
    rw [pkM_16, pkM_17, pkM_18]
    refine ⟨z1, z2, z3, z4, z5, z6, ?_, ?_⟩
    · show upr (uI (nO S' q 2) 27 q (-9)).2.2.2.2.1 0 (a (20 + p)) (some q) 0 (a (20 + r)) = some (wcl w P p q 2 r)
      by_cases h : r = p
      · rw [h, upr_e, wcl_2e]
      · rw [upr_o (fun z => h (d3.2.2.2.2.1 r p hr hp z)), wcl_2o h]; exact z7
    · by_cases h : r = p
      · rw [h, wcl_2e]; exact (show Is (nO S' q 2) q 2 from Is.new)
      · rw [wcl_2o h]; exact z8
  · intro r hr
    rw [pkM_19]
    by_cases h : r = p
    · subst h
      rw [wcl_2e, show upd (M 19) r 0 r = 0 from if_pos rfl]
      have hz : ∀ f, f ≠ 27 → (nwS S' q (a (20 + r))).2.2.2.1 f q = 0 := fun f hf => by
        show up2 (zI S'.2.2.2.1 q) 27 q (-9) f q = 0
        rw [up2_n hf]; exact if_pos rfl
      rw [hz 21 (by decide), hz 22 (by decide), hz 24 (by decide), hz 25 (by decide), hz 26 (by decide), hz 28 (by decide)]
      refine ⟨rfl, rfl, fun z => absurd z (by decide), fun _ => rfl, rfl, rfl, ?_, rfl⟩
      show up2 (zI S'.2.2.2.1 q) 27 q (-9) 27 q = -9
      exact up2_e
    · rw [wcl_2o h, upd_o h, btsN_c pkM_1 pkM_20, trF_c pkM_7 pkM_20, trL_c pkM_7 pkM_20, trW_c pkM_2 pkM_20, trT_c pkM_6 pkM_20]
      exact c4 r hr
  · intro i hi
    rw [pkM_22, pkM_23, pkM_24, pkM_25, pkM_26, pkM_27, pkM_28, pkM_29]
    by_cases h : i = P
    · subst h
      obtain ⟨t1, t2, t3, t4, t5, t6, t7, t8⟩ := c4 p hp
      have h6c : (M 19 p).toNatClampNeg = 6 := by rw [h6]; rfl
      rw [h6c] at t2 t3 t5 t6
      rw [wcl_1e]
      unfold upd
      simp only [if_pos]
      refine ⟨(c3.2.2 p hp).2.2.2.2.2.2.2, ?_, t2, (t3 (by decide)).1, (t3 (by decide)).2, t5, t6, t7, t8⟩
      show (uI (nO S' q 2) 27 q (-9)).2.2.2.1 20 (w 2 p) = M 16 p
      rw [(rp _ (pr0 p hp).2.2.2.2.2.2.2.1).2.2.2.2.2.1 20 (by decide) (by decide)]
      exact (show up2 S.2.2.2.1 20 (w 2 p) (M 16 p) 20 (w 2 p) = M 16 p from up2_e)
    · rw [wcl_1o h, upd_o h, upd_o h, upd_o h, upd_o h, upd_o h, upd_o h, upd_o h, upd_o h]
      exact c5 i (by omega)
  · have c6' : cEg w E (nwS S' q (a (20 + p))) M := c6
    have := cEg.c (N := pkM M p P) c6' pkM_1 pkM_2 pkM_3 pkM_4 pkM_5 pkM_6 pkM_7
    unfold cEg at this ⊢
    rw [wcl_0]; exact this
  · have c7' : cOd w O (nwS S' q (a (20 + p))) M := c7
    have := cOd.c (N := pkM M p P) c7' pkM_31 pkM_32 pkM_33 pkM_34
    unfold cOd at this ⊢
    rw [wcl_3]; exact this
  · have c8' : cBb a (nwS S' q (a (20 + p))) M := c8
    exact cBb.c (N := pkM M p P) c8' pkM_15
  · rw [pkM_8]; exact c.2.1.1
  · rw [pkM_11]; exact we.1
  · rw [pkM_21, show upd (M 21) 0 (M 21 0 + 1) 0 = M 21 0 + 1 from if_pos rfl, c.2.2.2.1.1.2, nI_1]
    exact ⟨by omega, rfl⟩
  · rw [pkM_30]; exact c.2.2.2.2.1.1
  · intro i hi
    rw [pkM_12, pkM_13, wcl_0]
    have hl := (we.2.1.2.2.2.2.2 i hi).2
    have hin9 : w 0 (M 12 i).toNatClampNeg ∈ S.1 := by rcases hl with z | z | z <;> exact z.1
    show (uI (nO S' q 2) 27 q (-9)).2.2.2.1 8 (w 0 (M 12 i).toNatClampNeg) + 8 = M 13 i
    rw [(rp _ hin9).2.2.2.2.2.1 8 (by decide) (by decide)]
    exact we.2.2 i hi
  · rw [wcl_0]; exact d3.1
  · intro i k hi hk
    by_cases h1 : i = P
    · by_cases h2 : k = P
      · exact fun _ => h1.trans h2.symm
      · rw [h1, wcl_1e, wcl_1o h2]
        exact fun z => absurd z.symm (d3.2.2.2.1 k p (by omega) hp)
    · by_cases h2 : k = P
      · rw [h2, wcl_1e, wcl_1o h1]
        exact fun z => absurd z (d3.2.2.2.1 i p (by omega) hp)
      · rw [wcl_1o h1, wcl_1o h2]
        exact d3.2.1 i k (by omega) (by omega)
  · intro r u hr hu
    by_cases h1 : r = p
    · by_cases h2 : u = p
      · exact fun _ => h1.trans h2.symm
      · rw [h1, wcl_2e, wcl_2o h2]
        exact fun z => absurd (by rw [z]; exact hin u hu) hq
    · by_cases h2 : u = p
      · rw [h2, wcl_2e, wcl_2o h1]
        exact fun z => absurd (by rw [← z]; exact hin r hr) hq
      · rw [wcl_2o h1, wcl_2o h2]
        exact d3.2.2.1 r u hr hu
  · intro i r hi hr
    by_cases h1 : i = P
    · rw [h1, wcl_1e]
      by_cases h2 : r = p
      · rw [h2, wcl_2e]
        exact fun z => hq (by rw [← z]; exact hin p hp)
      · rw [wcl_2o h2]
        exact fun z => h2 (d3.2.2.1 p r hp hr z).symm
    · rw [wcl_1o h1]
      by_cases h2 : r = p
      · rw [h2, wcl_2e]
        exact fun z => hq (by rw [← z]; exact hin1 i (by omega))
      · rw [wcl_2o h2]
        exact d3.2.2.2.1 i r (by omega) hr
  · exact d3.2.2.2.2.1
  · exact d3.2.2.2.2.2.1
  · rw [wcl_3]; exact d3.2.2.2.2.2.2
theorem cap5 (cp : CapOK v) {e' cap' n : Nat} (hn : n < 60) (h : cap' = v 15 ∨ (n = v 15 ∧ cap' = ncap (v 15))) : cap' ≤ 1000 ∧ CapOK (vu v 5 e' cap') := by
  have hc : cap' = 0 ∨ cap' = 10 ∨ cap' = 15 ∨ cap' = 22 ∨ cap' = 33 ∨ cap' = 49 ∨ cap' = 73 := by
    rcases h with z | ⟨z1, z2⟩
    · rw [z]; exact cp.2.2.1
    · rcases cp.2.2.1 with y | y | y | y | y | y | y
      · rw [y] at z2; exact Or.inr (Or.inl z2)
      · rw [y] at z2; exact Or.inr (Or.inr (Or.inl z2))
      · rw [y] at z2; exact Or.inr (Or.inr (Or.inr (Or.inl z2)))
      · rw [y] at z2; exact Or.inr (Or.inr (Or.inr (Or.inr (Or.inl z2))))
      · rw [y] at z2; exact Or.inr (Or.inr (Or.inr (Or.inr (Or.inr (Or.inl z2)))))
      · rw [y] at z2; exact Or.inr (Or.inr (Or.inr (Or.inr (Or.inr (Or.inr z2)))))
      · omega
  exact ⟨by omega, cp.1, cp.2.1, hc, cp.2.2.2⟩
theorem ncap5 (cp : CapOK v) {n : Nat} (hn : n < 60) (h : n = v 15) : ncap (v 15) ≤ 73 ∧ v 15 + 5 ≤ ncap (v 15) := by
  rcases cp.2.2.1 with y | y | y | y | y | y | y
  · rw [y]; decide
  · rw [y]; decide
  · rw [y]; decide
  · rw [y]; decide
  · rw [y]; decide
  · rw [y]; decide
  · omega
/-- does packer p take egg e? -/
def tkR (M : Nat → Nat → Int32) (p e : Nat) : Int32 := if M 17 p = 0 then if gradeN (M 6 e) = M 16 p then 1 else 0 else 0
def tkZ (M : Nat → Nat → Int32) (p e : Nat) : Int32 := if M 19 p < 5 then tkR M p e else if 60 ≤ M 21 0 then 0 else tkR M p e
theorem tkM_0 {p : Nat} (ok : OKM M E) (hp : p < 4) (h1 : M 18 p ≤ 0) (h2 : ¬ M 10 (8 + 2 * p) - 1 < 0) (hz : tkZ M p (eN M (8 + 2 * p)) = 0) : tkM M p = M := by
  obtain ⟨t, ht5, ht, -⟩ := ok.2.2.2.1 p hp
  obtain ⟨P0, hP0, eP⟩ := ok.2.2.2.2.1
  unfold tkM
  rw [if_pos h1, if_neg h2]
  by_cases h3 : M 17 p = 0
  · rw [if_pos h3]
    by_cases h4 : gradeN (M 6 (eN M (8 + 2 * p))) = M 16 p
    · rw [if_pos h4]
      unfold tkZ tkR at hz
      rw [if_pos h3, if_pos h4] at hz
      by_cases h5 : M 19 p < 5
      · rw [if_pos h5] at hz; exact absurd hz (by decide)
      · rw [if_neg h5] at hz
        have h55 : M 19 p = 5 := by
          have : ¬ t < 5 := fun q => h5 (by rw [ht]; exact nI_lt (b := 5) q (by omega))
          rw [ht, show t = 5 by omega]; rfl
        rw [if_pos h55]
        by_cases h6 : 60 ≤ M 21 0
        · have : M 21 0 = 60 := by
            rw [eP] at h6 ⊢
            have := (nI_leI (a := 60) (b := P0) (by omega) (by omega)).mp h6
            rw [show P0 = 60 by omega]; rfl
          rw [if_pos this]
        · rw [if_neg h6] at hz; exact absurd hz (by decide)
    · rw [if_neg h4]
  · rw [if_neg h3]
theorem tkM_1 {p : Nat} (ok : OKM M E) (hp : p < 4) (h1 : M 18 p ≤ 0) (h2 : ¬ M 10 (8 + 2 * p) - 1 < 0) (hz : ¬ tkZ M p (eN M (8 + 2 * p)) = 0) : tkM M p = tk2 M p (eN M (8 + 2 * p)) ∧ (M 19 p = 5 → ¬ M 21 0 = 60) := by
  obtain ⟨t, ht5, ht, -⟩ := ok.2.2.2.1 p hp
  obtain ⟨P0, hP0, eP⟩ := ok.2.2.2.2.1
  have h3 : M 17 p = 0 := Classical.byContradiction (fun q => hz (by unfold tkZ tkR; rw [if_neg q]; simp))
  have h4 : gradeN (M 6 (eN M (8 + 2 * p))) = M 16 p := Classical.byContradiction (fun q => hz (by unfold tkZ tkR; rw [if_pos h3, if_neg q]; simp))
  have h5 : M 19 p = 5 → ¬ M 21 0 = 60 := fun q r => hz (by
    unfold tkZ
    rw [if_neg (by rw [q]; decide), if_pos (by rw [r]; decide)])
  refine ⟨?_, h5⟩
  unfold tkM
  rw [if_pos h1, if_neg h2, if_pos h3, if_pos h4]
  by_cases h6 : M 19 p = 5
  · rw [if_pos h6, if_neg (h5 h6)]
  · rw [if_neg h6]
end C33
section C33b
variable {D : va_G} {ar : Nat → ClassId} {tg te mi : Nat} {S : CS}
variable {a v : Nat → Nat} {w : Nat → Nat → Nat} {E Q W P O : Nat} {M : Nat → Nat → Int32} {T : Int64}
set_option maxRecDepth 100000 in
theorem k_X4_takes (ci : CI te a v w E Q W P O S M T) {p e : Nat} (hp : p < 4) (he : e < E)  : Cn D ar (XC tg te mi) yX4_takes cX4_takes 4 (some .boolean) 1 23 0 0 [.ref (a 0), .ref (a (20 + p)), .ref (w 0 e)] (cW ar S) (fun r w9 => r = some (.int (tkZ M p e)) ∧ w9 = cW ar S) := by
  refine Cn.of (own := RX4) XC_ok (by decide) rfl (Nat.le_of_ble_eq_true rfl) (fun j C => ?_)
  have C0 := C.to
  show j _ 0 0 0 [(0, _), (1, _), (2, _)] []
  have hs := ci.1
  have pk := ci.2.2.2.1
  have pa := ci.2.2.2.2.2.2.2.2.1
  have pr := ci.2.2.2.2.2.2.1
  have tr := ci.2.2.2.2.2.2.2.1
  have od := ci.2.2.2.2.1
  have oo := ci.2.2.2.2.2.2.2.2.2.2.1
  have d := pr.2.2 p hp
  have eg := ci.2.2.2.2.2.2.2.2.2.1 e he
  by_cases hon : M 17 p = 0
  · refine r_aload_n C0 0 1 dX4_takes_0 rfl rfl ?_
    refine cgR_0 C0 1 d.2.2.2.2.2.2.1 flX4_84 d.2.1 dX4_takes_1 ?_
    refine cgI_21 C0 4 flX4_88 d.2.2.2.2.2.2.2 dX4_takes_4 ?_
    rw [(tr p hp).1]
    refine r_iconst C0 7 5 dX4_takes_7 (by decide) ?_
    refine r_icmp_lt C0 8 23 dX4_takes_8 (by decide) (fun c_8 => ?_) (fun c_8 => ?_)
    · refine r_iconst C0 23 1 dX4_takes_23 (by decide) ?_
      refine r_goto C0 24 28 dX4_takes_24 (by decide) ?_
      refine r_istore_n (lv' := [(0, _), (1, _), (2, _), (3, _)]) C0 28 3 dX4_takes_28 rfl rfl (by decide) rfl ?_
      refine r_aload_n C0 29 1 dX4_takes_29 rfl rfl ?_
      refine cgI_32 C0 30 flX4_96 d.2.1 dX4_takes_30 ?_
      rw [d.2.2.2.2.1, if_pos hon]
      refine r_if_eq C0 33 58 dX4_takes_33 (by decide) (fun c_33 => ?_) (fun c_33 => ?_)
      · exact absurd c_33 (by decide)
      · refine r_iload_n C0 36 3 dX4_takes_36 rfl rfl ?_
        refine r_if_eq C0 37 58 dX4_takes_37 (by decide) (fun c_37 => ?_) (fun c_37 => ?_)
        · exact absurd c_37 (by decide)
        · refine r_aload_n C0 40 2 dX4_takes_40 rfl rfl ?_
          refine cgI_6 C0 41 flX4_113 eg.1 dX4_takes_41 ?_
          rw [eg.2.2.2.2.2.2.2.1]
          refine s_call (As := [.int _]) C0 44 1 (k_X4_gradeOf _ _) (rm_X4_gradeOf (by decide) (by decide) (Nat.le_refl _) (Nat.le_refl _)) mlX4_116 st_X4_gradeOf rfl (Nat.le_of_ble_eq_true rfl) dX4_takes_44 ?_
          rintro _ _ ⟨rfl, rfl⟩
          refine r_aload_n C0 47 1 dX4_takes_47 rfl rfl ?_
          refine cgI_31 C0 48 flX4_93 d.2.1 dX4_takes_48 ?_
          rw [d.2.2.2.1]
          refine r_icmp_ne C0 51 58 dX4_takes_51 (by decide) (fun c_51 => ?_) (fun c_51 => ?_)
          · refine r_iconst C0 58 0 dX4_takes_58 (by decide) ?_
            refine r_zret C 59 rfl dX4_takes_59 (Nat.le_refl _) (Nat.le_refl _) ?_
            exact ⟨by simp only [tkZ, tkR, eq_true hon, eq_true c_8, eq_false c_33, eq_false c_37, eq_false c_51]; rfl, rfl⟩
          · refine r_iconst C0 54 1 dX4_takes_54 (by decide) ?_
            refine r_goto C0 55 59 dX4_takes_55 (by decide) ?_
            refine r_zret C 59 rfl dX4_takes_59 (Nat.le_refl _) (Nat.le_refl _) ?_
            exact ⟨by simp only [tkZ, tkR, eq_true hon, eq_true c_8, eq_false c_33, eq_false c_37, eq_true c_51]; rfl, rfl⟩
    · refine r_aload_n C0 11 0 dX4_takes_11 rfl rfl ?_
      refine cgR_5 C0 12 hs.2.1.2.2.2.2.1 flX4_31 hs.1 dX4_takes_12 ?_
      refine c_call (As := []) C0 15 0 (k_Jx4a65c_size_8abf5 XC_ok pk.2.1) (rm_Jx4a65c_size_8abf5 (by decide) (by decide) (Nat.le_refl _) (Nat.le_refl _)) mlX4_53 im_Jx4a65c_size_8abf5 se_Jx4a65c_size_8abf5 (by decide) rfl pk.2.1 rfl (Nat.le_of_ble_eq_true rfl) dX4_takes_15 ?_
      rintro _ _ ⟨rfl, rfl⟩
      rw [pk.2.2.1, ← pk.1.2]
      refine r_bipush C0 18 60 dX4_takes_18 (by decide) ?_
      refine r_icmp_ge C0 20 27 dX4_takes_20 (by decide) (fun c_20 => ?_) (fun c_20 => ?_)
      · refine r_iconst C0 27 0 dX4_takes_27 (by decide) ?_
        refine r_istore_n (lv' := [(0, _), (1, _), (2, _), (3, _)]) C0 28 3 dX4_takes_28 rfl rfl (by decide) rfl ?_
        refine r_aload_n C0 29 1 dX4_takes_29 rfl rfl ?_
        refine cgI_32 C0 30 flX4_96 d.2.1 dX4_takes_30 ?_
        rw [d.2.2.2.2.1, if_pos hon]
        refine r_if_eq C0 33 58 dX4_takes_33 (by decide) (fun c_33 => ?_) (fun c_33 => ?_)
        · exact absurd c_33 (by decide)
        · refine r_iload_n C0 36 3 dX4_takes_36 rfl rfl ?_
          refine r_if_eq C0 37 58 dX4_takes_37 (by decide) (fun c_37 => ?_) (fun c_37 => ?_)
          · refine r_iconst C0 58 0 dX4_takes_58 (by decide) ?_
            refine r_zret C 59 rfl dX4_takes_59 (Nat.le_refl _) (Nat.le_refl _) ?_
            exact ⟨by simp only [tkZ, tkR, eq_true hon, eq_false c_8, eq_true c_20, eq_false c_33, eq_true c_37]; rfl, rfl⟩
          · exact absurd rfl c_37
      · refine r_iconst C0 23 1 dX4_takes_23 (by decide) ?_
        refine r_goto C0 24 28 dX4_takes_24 (by decide) ?_
        refine r_istore_n (lv' := [(0, _), (1, _), (2, _), (3, _)]) C0 28 3 dX4_takes_28 rfl rfl (by decide) rfl ?_
        refine r_aload_n C0 29 1 dX4_takes_29 rfl rfl ?_
        refine cgI_32 C0 30 flX4_96 d.2.1 dX4_takes_30 ?_
        rw [d.2.2.2.2.1, if_pos hon]
        refine r_if_eq C0 33 58 dX4_takes_33 (by decide) (fun c_33 => ?_) (fun c_33 => ?_)
        · exact absurd c_33 (by decide)
        · refine r_iload_n C0 36 3 dX4_takes_36 rfl rfl ?_
          refine r_if_eq C0 37 58 dX4_takes_37 (by decide) (fun c_37 => ?_) (fun c_37 => ?_)
          · exact absurd c_37 (by decide)
          · refine r_aload_n C0 40 2 dX4_takes_40 rfl rfl ?_
            refine cgI_6 C0 41 flX4_113 eg.1 dX4_takes_41 ?_
            rw [eg.2.2.2.2.2.2.2.1]
            refine s_call (As := [.int _]) C0 44 1 (k_X4_gradeOf _ _) (rm_X4_gradeOf (by decide) (by decide) (Nat.le_refl _) (Nat.le_refl _)) mlX4_116 st_X4_gradeOf rfl (Nat.le_of_ble_eq_true rfl) dX4_takes_44 ?_
            rintro _ _ ⟨rfl, rfl⟩
            refine r_aload_n C0 47 1 dX4_takes_47 rfl rfl ?_
            refine cgI_31 C0 48 flX4_93 d.2.1 dX4_takes_48 ?_
            rw [d.2.2.2.1]
            refine r_icmp_ne C0 51 58 dX4_takes_51 (by decide) (fun c_51 => ?_) (fun c_51 => ?_)
            · refine r_iconst C0 58 0 dX4_takes_58 (by decide) ?_
              refine r_zret C 59 rfl dX4_takes_59 (Nat.le_refl _) (Nat.le_refl _) ?_
              exact ⟨by simp only [tkZ, tkR, eq_true hon, eq_false c_8, eq_false c_20, eq_false c_33, eq_false c_37, eq_false c_51]; rfl, rfl⟩
            · refine r_iconst C0 54 1 dX4_takes_54 (by decide) ?_
              refine r_goto C0 55 59 dX4_takes_55 (by decide) ?_
              refine r_zret C 59 rfl dX4_takes_59 (Nat.le_refl _) (Nat.le_refl _) ?_
              exact ⟨by simp only [tkZ, tkR, eq_true hon, eq_false c_8, eq_false c_20, eq_false c_33, eq_false c_37, eq_true c_51]; rfl, rfl⟩
  · refine r_aload_n C0 0 1 dX4_takes_0 rfl rfl ?_
    refine cgR_0 C0 1 d.2.2.2.2.2.2.1 flX4_84 d.2.1 dX4_takes_1 ?_
    refine cgI_21 C0 4 flX4_88 d.2.2.2.2.2.2.2 dX4_takes_4 ?_
    rw [(tr p hp).1]
    refine r_iconst C0 7 5 dX4_takes_7 (by decide) ?_
    refine r_icmp_lt C0 8 23 dX4_takes_8 (by decide) (fun c_8 => ?_) (fun c_8 => ?_)
    · refine r_iconst C0 23 1 dX4_takes_23 (by decide) ?_
      refine r_goto C0 24 28 dX4_takes_24 (by decide) ?_
      refine r_istore_n (lv' := [(0, _), (1, _), (2, _), (3, _)]) C0 28 3 dX4_takes_28 rfl rfl (by decide) rfl ?_
      refine r_aload_n C0 29 1 dX4_takes_29 rfl rfl ?_
      refine cgI_32 C0 30 flX4_96 d.2.1 dX4_takes_30 ?_
      rw [d.2.2.2.2.1, if_neg hon]
      refine r_if_eq C0 33 58 dX4_takes_33 (by decide) (fun c_33 => ?_) (fun c_33 => ?_)
      · refine r_iconst C0 58 0 dX4_takes_58 (by decide) ?_
        refine r_zret C 59 rfl dX4_takes_59 (Nat.le_refl _) (Nat.le_refl _) ?_
        exact ⟨by simp only [tkZ, tkR, eq_false hon, eq_true c_8, eq_true c_33]; rfl, rfl⟩
      · exact absurd rfl c_33
    · refine r_aload_n C0 11 0 dX4_takes_11 rfl rfl ?_
      refine cgR_5 C0 12 hs.2.1.2.2.2.2.1 flX4_31 hs.1 dX4_takes_12 ?_
      refine c_call (As := []) C0 15 0 (k_Jx4a65c_size_8abf5 XC_ok pk.2.1) (rm_Jx4a65c_size_8abf5 (by decide) (by decide) (Nat.le_refl _) (Nat.le_refl _)) mlX4_53 im_Jx4a65c_size_8abf5 se_Jx4a65c_size_8abf5 (by decide) rfl pk.2.1 rfl (Nat.le_of_ble_eq_true rfl) dX4_takes_15 ?_
      rintro _ _ ⟨rfl, rfl⟩
      rw [pk.2.2.1, ← pk.1.2]
      refine r_bipush C0 18 60 dX4_takes_18 (by decide) ?_
      refine r_icmp_ge C0 20 27 dX4_takes_20 (by decide) (fun c_20 => ?_) (fun c_20 => ?_)
      · refine r_iconst C0 27 0 dX4_takes_27 (by decide) ?_
        refine r_istore_n (lv' := [(0, _), (1, _), (2, _), (3, _)]) C0 28 3 dX4_takes_28 rfl rfl (by decide) rfl ?_
        refine r_aload_n C0 29 1 dX4_takes_29 rfl rfl ?_
        refine cgI_32 C0 30 flX4_96 d.2.1 dX4_takes_30 ?_
        rw [d.2.2.2.2.1, if_neg hon]
        refine r_if_eq C0 33 58 dX4_takes_33 (by decide) (fun c_33 => ?_) (fun c_33 => ?_)
        · refine r_iconst C0 58 0 dX4_takes_58 (by decide) ?_
          refine r_zret C 59 rfl dX4_takes_59 (Nat.le_refl _) (Nat.le_refl _) ?_
          exact ⟨by simp only [tkZ, tkR, eq_false hon, eq_false c_8, eq_true c_20, eq_true c_33]; rfl, rfl⟩
        · exact absurd rfl c_33
      · refine r_iconst C0 23 1 dX4_takes_23 (by decide) ?_
        refine r_goto C0 24 28 dX4_takes_24 (by decide) ?_
        refine r_istore_n (lv' := [(0, _), (1, _), (2, _), (3, _)]) C0 28 3 dX4_takes_28 rfl rfl (by decide) rfl ?_
        refine r_aload_n C0 29 1 dX4_takes_29 rfl rfl ?_
        refine cgI_32 C0 30 flX4_96 d.2.1 dX4_takes_30 ?_
        rw [d.2.2.2.2.1, if_neg hon]
        refine r_if_eq C0 33 58 dX4_takes_33 (by decide) (fun c_33 => ?_) (fun c_33 => ?_)
        · refine r_iconst C0 58 0 dX4_takes_58 (by decide) ?_
          refine r_zret C 59 rfl dX4_takes_59 (Nat.le_refl _) (Nat.le_refl _) ?_
          exact ⟨by simp only [tkZ, tkR, eq_false hon, eq_false c_8, eq_false c_20, eq_true c_33]; rfl, rfl⟩
        · exact absurd rfl c_33
set_option maxRecDepth 100000 in
theorem k_X4_closeTray0 (ci : CI te a v w E Q W P O S M T) (cp : CapOK v) {p : Nat} (hp : p < 4) (hP : P < 60) (h6 : M 19 p = nI 6) (hg : P < v 15)  : Cn D ar (XC tg te mi) yX4_closeTray cX4_closeTray 2 none 7 183 1 9 [.ref (a 0), .ref (a (20 + p))] (cW ar S) (fun r w9 => r = none ∧ ∃ (S' : CS) (v' : Nat → Nat) (w' : Nat → Nat → Nat), w9 = cW ar S' ∧ CI te a v' w' E Q W (P + 1) O S' (pkM M p P) T ∧ CapOK v' ∧ (v' 15 = v 15 ∧ P < v 15 ∨ P = v 15 ∧ v' 15 = ncap (v 15))) := by
  refine Cn.of (own := RX4) XC_ok (by decide) rfl (Nat.le_of_ble_eq_true rfl) (fun j C => ?_)
  have C0 := C.to
  show j _ 0 0 0 [(0, _), (1, _)] []
  have hs := ci.1
  have pk := ci.2.2.2.1
  have pa := ci.2.2.2.2.2.2.2.2.1
  have pr := ci.2.2.2.2.2.2.1
  have tr := ci.2.2.2.2.2.2.2.1
  have od := ci.2.2.2.2.1
  have oo := ci.2.2.2.2.2.2.2.2.2.2.1
  have d := pr.2.2 p hp
  refine r_aload_n C0 0 1 dX4_closeTray_0 rfl rfl ?_
  refine cgR_0 C0 1 d.2.2.2.2.2.2.1 flX4_84 d.2.1 dX4_closeTray_1 ?_
  refine r_aload_n C0 4 1 dX4_closeTray_4 rfl rfl ?_
  refine cgI_31 C0 5 flX4_93 d.2.1 dX4_closeTray_5 ?_
  rw [d.2.2.2.1]
  refine cpI_20 C0 8 flX4_141 d.2.2.2.2.2.2.2 dX4_closeTray_8 ?_
  refine r_aload_n C0 11 0 dX4_closeTray_11 rfl rfl ?_
  refine cgR_5 C0 12 hs.2.1.2.2.2.2.1 flX4_31 hs.1 dX4_closeTray_12 ?_
  refine r_aload_n C0 15 1 dX4_closeTray_15 rfl rfl ?_
  refine cgR_0 C0 16 d.2.2.2.2.2.2.1 flX4_84 d.2.1 dX4_closeTray_16 ?_
  refine ca_teN C0 (fun hte => ?_)
  have L : L4 te a v (uI S 20 (w 2 p) (M 16 p)) (nn Q W P O) (ff M w) := ci.l4.uI (by decide)
  refine c_call (As := [.ref _]) C0 19 1 (k_addR (L.1 5 I5) hg (Or.inr (Or.inr d.2.2.2.2.2.2.2))) (rm_Jx4a65c_add_9ea2d (by decide) (by decide) (Nat.le_of_ble_eq_true rfl) (Nat.le_of_ble_eq_true rfl)) mlX4_64 im_Jx4a65c_add_9ea2d se_Jx4a65c_add_9ea2d (by decide) rfl pk.2.1 rfl (Nat.le_of_ble_eq_true rfl) dX4_closeTray_19 ?_
  rintro _ _ ⟨rfl, S3, e', cap', rfl, ap⟩
  have rp : Rp (uI S 20 (w 2 p) (M 16 p)) S3 := ap.rp (L.1 5 I5) hte
  have hcc : cap' = v 15 := by
    rcases ap.2.2.2.2.2.2.1 with ⟨-, z, -⟩ | ⟨-, z, -⟩
    · exact z
    · exact absurd hg (by have z2 : P = v 15 := z; omega)
  refine r_pop C0 22 dX4_closeTray_22 rfl ?_
  refine r_aload_n C0 23 1 dX4_closeTray_23 rfl rfl ?_
  refine ca_new2 C0 24 clX4_89 (Nat.le_of_ble_eq_true rfl) (Nat.le_of_ble_eq_true rfl) dX4_closeTray_24 (fun q hq => ?_)
  refine r_dup C0 27 dX4_closeTray_27 rfl ?_
  refine c_initN (As := []) C0 28 0 (k_X2_init XC_ok Is.new) (rm_X2_init (by decide) (by decide) (Nat.le_of_ble_eq_true rfl) (Nat.le_of_ble_eq_true rfl)) (fun A s h => h.2.1.2) im_X2_init rfl rfl (Nat.le_of_ble_eq_true rfl) dX4_closeTray_28 ?_
  rintro _ _ ⟨rfl, rfl⟩
  refine cpR_0 C0 31 flX4_84 ((rp.is d.2.1).old hq) dX4_closeTray_31 ?_
  refine r_vret C 34 dX4_closeTray_34 (Nat.le_of_ble_eq_true rfl) (Nat.le_of_ble_eq_true rfl) ?_
  exact ⟨rfl, _, _, _, rfl, ci.close hp hP h6 hte ap (cap5 (e' := e') cp hP ap.cap).1 hq, (cap5 cp hP ap.cap).2, Or.inl ⟨hcc, hg⟩⟩
set_option maxRecDepth 100000 in
theorem k_X4_closeTray1 (ci : CI te a v w E Q W P O S M T) (cp : CapOK v) {p : Nat} (hp : p < 4) (hP : P < 60) (h6 : M 19 p = nI 6)  : Cn D ar (XC tg te mi) yX4_closeTray cX4_closeTray 2 none 7 183 2 82 [.ref (a 0), .ref (a (20 + p))] (cW ar S) (fun r w9 => r = none ∧ ∃ (S' : CS) (v' : Nat → Nat) (w' : Nat → Nat → Nat), w9 = cW ar S' ∧ CI te a v' w' E Q W (P + 1) O S' (pkM M p P) T ∧ CapOK v' ∧ (v' 15 = v 15 ∧ P < v 15 ∨ P = v 15 ∧ v' 15 = ncap (v 15))) := by
  refine Cn.of (own := RX4) XC_ok (by decide) rfl (Nat.le_of_ble_eq_true rfl) (fun j C => ?_)
  have C0 := C.to
  show j _ 0 0 0 [(0, _), (1, _)] []
  have hs := ci.1
  have pk := ci.2.2.2.1
  have pa := ci.2.2.2.2.2.2.2.2.1
  have pr := ci.2.2.2.2.2.2.1
  have tr := ci.2.2.2.2.2.2.2.1
  have od := ci.2.2.2.2.1
  have oo := ci.2.2.2.2.2.2.2.2.2.2.1
  have d := pr.2.2 p hp
  refine r_aload_n C0 0 1 dX4_closeTray_0 rfl rfl ?_
  refine cgR_0 C0 1 d.2.2.2.2.2.2.1 flX4_84 d.2.1 dX4_closeTray_1 ?_
  refine r_aload_n C0 4 1 dX4_closeTray_4 rfl rfl ?_
  refine cgI_31 C0 5 flX4_93 d.2.1 dX4_closeTray_5 ?_
  rw [d.2.2.2.1]
  refine cpI_20 C0 8 flX4_141 d.2.2.2.2.2.2.2 dX4_closeTray_8 ?_
  refine r_aload_n C0 11 0 dX4_closeTray_11 rfl rfl ?_
  refine cgR_5 C0 12 hs.2.1.2.2.2.2.1 flX4_31 hs.1 dX4_closeTray_12 ?_
  refine r_aload_n C0 15 1 dX4_closeTray_15 rfl rfl ?_
  refine cgR_0 C0 16 d.2.2.2.2.2.2.1 flX4_84 d.2.1 dX4_closeTray_16 ?_
  refine ca_teN C0 (fun hte => ?_)
  have L : L4 te a v (uI S 20 (w 2 p) (M 16 p)) (nn Q W P O) (ff M w) := ci.l4.uI (by decide)
  by_cases hg : P < v 15
  · refine c_call (As := [.ref _]) C0 19 1 (k_addR (L.1 5 I5) hg (Or.inr (Or.inr d.2.2.2.2.2.2.2))) (rm_Jx4a65c_add_9ea2d (by decide) (by decide) (Nat.le_of_ble_eq_true rfl) (Nat.le_of_ble_eq_true rfl)) mlX4_64 im_Jx4a65c_add_9ea2d se_Jx4a65c_add_9ea2d (by decide) rfl pk.2.1 rfl (Nat.le_of_ble_eq_true rfl) dX4_closeTray_19 ?_
    rintro _ _ ⟨rfl, S3, e', cap', rfl, ap⟩
    have rp : Rp (uI S 20 (w 2 p) (M 16 p)) S3 := ap.rp (L.1 5 I5) hte
    have hcc : cap' = v 15 := by
      rcases ap.2.2.2.2.2.2.1 with ⟨-, z, -⟩ | ⟨-, z, -⟩
      · exact z
      · exact absurd hg (by have z2 : P = v 15 := z; omega)
    refine r_pop C0 22 dX4_closeTray_22 rfl ?_
    refine r_aload_n C0 23 1 dX4_closeTray_23 rfl rfl ?_
    refine ca_new2 C0 24 clX4_89 (Nat.le_of_ble_eq_true rfl) (Nat.le_of_ble_eq_true rfl) dX4_closeTray_24 (fun q hq => ?_)
    refine r_dup C0 27 dX4_closeTray_27 rfl ?_
    refine c_initN (As := []) C0 28 0 (k_X2_init XC_ok Is.new) (rm_X2_init (by decide) (by decide) (Nat.le_of_ble_eq_true rfl) (Nat.le_of_ble_eq_true rfl)) (fun A s h => h.2.1.2) im_X2_init rfl rfl (Nat.le_of_ble_eq_true rfl) dX4_closeTray_28 ?_
    rintro _ _ ⟨rfl, rfl⟩
    refine cpR_0 C0 31 flX4_84 ((rp.is d.2.1).old hq) dX4_closeTray_31 ?_
    refine r_vret C 34 dX4_closeTray_34 (Nat.le_of_ble_eq_true rfl) (Nat.le_of_ble_eq_true rfl) ?_
    exact ⟨rfl, _, _, _, rfl, ci.close hp hP h6 hte ap (cap5 (e' := e') cp hP ap.cap).1 hq, (cap5 cp hP ap.cap).2, Or.inl ⟨hcc, hg⟩⟩
  · have hv : P = v 15 := by
      have := pk.2.2.2.2.1.1
      omega
    have hcap := (ncap5 cp hP hv).1
    have Lf : LsA te (uI S 20 (w 2 p) (M 16 p)) (a 5) (v 15) (v 5) (v 15) (ff M w 5) := by
      have l := L.1 5 I5
      rw [show nn Q W P O 5 = v 15 from hv] at l
      exact l
    refine c_call (As := [.ref _]) C0 19 1 (k_addF Lf (Or.inr (Or.inr d.2.2.2.2.2.2.2))) (rm_Jx4a65c_add_9ea2d (by decide) (by decide) (Nat.le_of_ble_eq_true rfl) (show 0 + ncap (v 15) ≤ 82 by omega)) mlX4_64 im_Jx4a65c_add_9ea2d se_Jx4a65c_add_9ea2d (by decide) rfl pk.2.1 rfl (Nat.le_of_ble_eq_true rfl) dX4_closeTray_19 ?_
    rintro _ _ ⟨rfl, S3, e', cap', rfl, ap⟩
    replace ap : AddP te (uI S 20 (w 2 p) (M 16 p)) S3 (a 5) P (v 5) (v 15) (w 2 p) e' cap' := by rw [hv]; exact ap
    refine r_widen C0 1 73 (by decide) (by omega) ?_
    have rp : Rp (uI S 20 (w 2 p) (M 16 p)) S3 := ap.rp (L.1 5 I5) hte
    have hcc : cap' = ncap (v 15) := by
      rcases ap.2.2.2.2.2.2.1 with ⟨-, -, z⟩ | ⟨-, -, z⟩
      · omega
      · exact z
    refine r_pop C0 22 dX4_closeTray_22 rfl ?_
    refine r_aload_n C0 23 1 dX4_closeTray_23 rfl rfl ?_
    refine ca_new2 C0 24 clX4_89 (Nat.le_of_ble_eq_true rfl) (Nat.le_of_ble_eq_true rfl) dX4_closeTray_24 (fun q hq => ?_)
    refine r_dup C0 27 dX4_closeTray_27 rfl ?_
    refine c_initN (As := []) C0 28 0 (k_X2_init XC_ok Is.new) (rm_X2_init (by decide) (by decide) (Nat.le_of_ble_eq_true rfl) (Nat.le_of_ble_eq_true rfl)) (fun A s h => h.2.1.2) im_X2_init rfl rfl (Nat.le_of_ble_eq_true rfl) dX4_closeTray_28 ?_
    rintro _ _ ⟨rfl, rfl⟩
    refine cpR_0 C0 31 flX4_84 ((rp.is d.2.1).old hq) dX4_closeTray_31 ?_
    refine r_vret C 34 dX4_closeTray_34 (Nat.le_of_ble_eq_true rfl) (Nat.le_of_ble_eq_true rfl) ?_
    exact ⟨rfl, _, _, _, rfl, ci.close hp hP h6 hte ap (cap5 (e' := e') cp hP ap.cap).1 hq, (cap5 cp hP ap.cap).2, Or.inr ⟨hv, hcc⟩⟩
end C33b
