/-! a tick keeps what holds of the model's numbers: every egg in one place, times, packs -/
def WeOK (M : Nat → Nat → Int32) (E now : Nat) : Prop := ∀ e, e < E → ∃ x : Nat, x ≤ now ∧ M 7 e = nI x
def TI (M : Nat → Nat → Int32) (E now : Nat) : Prop := OKM M E ∧ (∃ lo, Pl M lo) ∧ WeOK M E now ∧ WtOK M now ∧ PkOK M (M 21 0).toNatClampNeg ∧ (M 35 0 = nI now ∧ now ≤ 30000)
/-- what a tick leaves alone -/
def Tk (E : Nat) (M N : Nat → Nat → Int32) : Prop := (∀ g, (g ≤ 4 ∨ g = 16 ∨ g = 17 ∨ (30 ≤ g ∧ g ≤ 36)) → N g = M g) ∧ (∀ i, 16 ≤ i → N 15 i = M 15 i) ∧ ∀ e, E ≤ e → N 6 e = M 6 e ∧ N 7 e = M 7 e
section C36
variable {M N : Nat → Nat → Int32} {E now : Nat} {lo : Nat → Nat}
theorem Tk.rf : Tk E M M := ⟨fun _ _ => rfl, fun _ _ => rfl, fun _ _ => ⟨rfl, rfl⟩⟩
theorem Tk.t {K : Nat → Nat → Int32} (h : Tk E M N) (h2 : Tk E N K) : Tk E M K := ⟨fun g q => (h2.1 g q).trans (h.1 g q), fun i q => (h2.2.1 i q).trans (h.2.1 i q), fun e q => ⟨(h2.2.2 e q).1.trans (h.2.2 e q).1, (h2.2.2 e q).2.trans (h.2.2 e q).2⟩⟩
theorem Tk.up {f x : Nat} {y : Int32} (h : Tk E M N) (hf : ¬ (f ≤ 4 ∨ f = 16 ∨ f = 17 ∨ (30 ≤ f ∧ f ≤ 36))) (h15 : f = 15 → x < 16) (h67 : f = 6 ∨ f = 7 → x < E) : Tk E M (up2 N f x y) := by
  refine ⟨fun g q => ?_, fun i q => ?_, fun e q => ⟨?_, ?_⟩⟩
  · rw [up2_n (show g ≠ f from fun z => hf (by rw [← z]; exact q))]; exact h.1 g q
  · by_cases z : f = 15
    · rw [up2_o (by have := h15 z; omega)]; exact h.2.1 i q
    · rw [up2_n (fun y => z y.symm)]; exact h.2.1 i q
  · by_cases z : f = 6
    · rw [up2_o (by have := h67 (Or.inl z); omega)]; exact (h.2.2 e q).1
    · rw [up2_n (fun y => z y.symm)]; exact (h.2.2 e q).1
  · by_cases z : f = 7
    · rw [up2_o (by have := h67 (Or.inr z); omega)]; exact (h.2.2 e q).2
    · rw [up2_n (fun y => z y.symm)]; exact (h.2.2 e q).2
theorem Pl.c (h : Pl M lo) (h8 : N 8 = M 8) (h9 : N 9 = M 9) (h10 : N 10 = M 10) (h11 : N 11 = M 11) (h12 : N 12 = M 12) (h19 : N 19 = M 19) (h20 : N 20 = M 20) : Pl N lo := by
  unfold Pl eN trE
  rw [h8, h9, h10, h11, h12, h19, h20]
  exact h
theorem WeOK.c (h : WeOK M E now) (h7 : N 7 = M 7) : WeOK N E now := by unfold WeOK; rw [h7]; exact h
theorem WtOK.c (h : WtOK M now) (h11 : N 11 = M 11) (h13 : N 13 = M 13) : WtOK N now := by unfold WtOK; rw [h11, h13]; exact h
theorem PkOK.c {P : Nat} (h : PkOK M P) (h23 : N 23 = M 23) (h24 : N 24 = M 24) (h25 : N 25 = M 25) (h29 : N 29 = M 29) (h35 : N 35 = M 35) : PkOK N P := by
  unfold PkOK; rw [h23, h24, h25, h29, h35]; exact h
theorem TI.c (h : TI M E now) (hh : ∀ g, (g = 1 ∨ (7 ≤ g ∧ g ≤ 13) ∨ (19 ≤ g ∧ g ≤ 21) ∨ (23 ≤ g ∧ g ≤ 25) ∨ g = 29 ∨ g = 35) → N g = M g) : TI N E now := by
  obtain ⟨⟨o1, o2, o3, o4, o5, o6⟩, ⟨lo, pl⟩, h3, h4, h5, h6⟩ := h
  refine ⟨⟨o1.c (hh 8 (by decide)) (hh 9 (by decide)), o2.c (hh 10 (by decide)), o3.c (hh 11 (by decide)) (hh 12 (by decide)), o4.c (hh 19 (by decide)) (hh 20 (by decide)), o5.c (hh 21 (by decide)), o6.c (hh 1 (by decide))⟩, ⟨lo, pl.c (hh 8 (by decide)) (hh 9 (by decide)) (hh 10 (by decide)) (hh 11 (by decide)) (hh 12 (by decide)) (hh 19 (by decide)) (hh 20 (by decide))⟩, h3.c (hh 7 (by decide)), h4.c (hh 11 (by decide)) (hh 13 (by decide)), ?_, ?_⟩
  · rw [hh 21 (by decide)]
    exact h5.c (hh 23 (by decide)) (hh 24 (by decide)) (hh 25 (by decide)) (hh 29 (by decide)) (hh 35 (by decide))
  · rw [hh 35 (by decide)]; exact h6
theorem OKM.q20 (h : OKM M E) : (M 8 0).toNatClampNeg ≤ 20 := by
  obtain ⟨Q, h1, h2, -⟩ := h.1
  rw [h2, nI_clamp (by omega)]; exact h1
theorem OKM.w30 (h : OKM M E) : (M 11 0).toNatClampNeg ≤ 30 := by
  obtain ⟨Q, h1, h2, -⟩ := h.2.2.1
  rw [h2, nI_clamp (by omega)]; exact h1
theorem OKM.t5 (h : OKM M E) {p : Nat} (hp : p < 4) : (M 19 p).toNatClampNeg ≤ 5 := by
  obtain ⟨Q, h1, h2, -⟩ := h.2.2.2.1 p hp
  rw [h2, nI_clamp (by omega)]; exact h1
theorem z1lt : (0 : Int32) - 1 < 0 := by decide
theorem TI.in15 {x : Nat} (h : TI M E now) : TI (in15 M x) E now := h.c (fun g q => up2_n (fun z => by omega))
theorem Pl.z {k : Nat} (h : Pl M lo) : Pl (up2 M 10 k 0) lo := by
  refine ⟨h.1, h.2.1, fun i hi hn => ?_, h.2.2.2⟩
  by_cases q : i = k
  · exact absurd (show up2 M 10 k 0 10 i - 1 < 0 by rw [q, up2_e]; exact z1lt) hn
  · have e1 : up2 M 10 k 0 10 i = M 10 i := by rw [up2_s, upd_o q]
    unfold eN at *
    rw [e1] at hn ⊢
    exact h.2.2.1 i hi hn
theorem TI.z {k : Nat} (h : TI M E now) : TI (up2 M 10 k 0) E now := by
  obtain ⟨h1, ⟨lo, pl⟩, h3, h4, h5, h6⟩ := h
  exact ⟨h1.z, ⟨lo, pl.z⟩, h3.c rfl, h4.c rfl rfl, h5.c rfl rfl rfl rfl rfl, h6⟩
theorem TI.s1 (h : TI M E now) : TI (s1M M) E now := by
  unfold s1M
  split
  · exact h
  · exact h.in15
theorem s2M_10 {k : Nat} (h0 : 0 < k) (h : k < 16) : s2M M 10 k = M 10 (k - 1) := by
  show upd (mvL (M 10) 15) 0 0 k = _
  rw [upd_o (by omega)]
  unfold mvL
  rw [if_pos (by omega)]
theorem s2M_100 : s2M M 10 0 = 0 := rfl
theorem Pl.s2 (h : Pl M lo) (ok : OKM M E) : Pl (s2M M) (fun x => if 200 ≤ lo x ∧ lo x < 215 then lo x + 1 else lo x) := by
  have hq := ok.q20
  have hw := ok.w30
  refine ⟨fun k hk => ?_, fun k hk => ?_, fun k hk hn => ?_, fun p hp k hk => ?_⟩
  · have := h.1 k hk
    have hk2 : k < (M 8 0).toNatClampNeg := hk
    show (if 200 ≤ lo (M 9 k).toNatClampNeg ∧ lo (M 9 k).toNatClampNeg < 215 then lo (M 9 k).toNatClampNeg + 1 else lo (M 9 k).toNatClampNeg) = k
    rw [this, if_neg (by omega)]
  · have := h.2.1 k hk
    have hk2 : k < (M 11 0).toNatClampNeg := hk
    show (if 200 ≤ lo (M 12 k).toNatClampNeg ∧ lo (M 12 k).toNatClampNeg < 215 then lo (M 12 k).toNatClampNeg + 1 else lo (M 12 k).toNatClampNeg) = 100 + k
    rw [this, if_neg (by omega)]
  · by_cases h0 : k = 0
    · subst h0
      exact absurd (show s2M M 10 0 - 1 < 0 from z1lt) hn
    · have e1 := s2M_10 (M := M) (k := k) (by omega) hk
      have e2 : eN (s2M M) k = eN M (k - 1) := by unfold eN; rw [e1]
      rw [e1] at hn
      have := h.2.2.1 (k - 1) (by omega) hn
      rw [e2]
      show (if 200 ≤ lo (eN M (k - 1)) ∧ lo (eN M (k - 1)) < 215 then lo (eN M (k - 1)) + 1 else lo (eN M (k - 1))) = 200 + k
      rw [this, if_pos (by omega)]
      omega
  · have := h.2.2.2 p hp k hk
    show (if 200 ≤ lo (trE M p k) ∧ lo (trE M p k) < 215 then lo (trE M p k) + 1 else lo (trE M p k)) = 300 + 6 * p + k
    rw [this, if_neg (by omega)]
theorem TI.s2 (h : TI M E now) : TI (s2M M) E now := by
  obtain ⟨h1, ⟨lo, pl⟩, h3, h4, h5, h6⟩ := h
  exact ⟨h1.s2, ⟨_, pl.s2 h1⟩, h3.c rfl, h4.c rfl rfl, h5.c rfl rfl rfl rfl rfl, h6⟩
theorem TI.s3 (h : TI M E now) : TI (s3M M) E now := by
  unfold s3M
  split
  · exact h
  · obtain ⟨h1, ⟨lo, pl⟩, h3, h4, h5, h6⟩ := h
    refine ⟨⟨h1.1.c rfl rfl, h1.2.1.c rfl, h1.2.2.1.c rfl rfl, h1.2.2.2.1.c rfl rfl, h1.2.2.2.2.1.c rfl, h1.2.2.2.2.2.c rfl⟩, ⟨lo, pl.c rfl rfl rfl rfl rfl rfl rfl⟩, fun e he => ?_, h4.c rfl rfl, h5.c rfl rfl rfl rfl rfl, h6⟩
    show ∃ x : Nat, x ≤ now ∧ upd (M 7) (eN M 2) (M 35 0) e = nI x
    unfold upd
    by_cases q : e = eN M 2
    · rw [if_pos q]; exact ⟨now, Nat.le_refl _, h6.1⟩
    · rw [if_neg q]; exact h3 e he
theorem Pl.lkw {e W : Nat} (h : Pl M lo) (ok : OKM M E) (hE : E ≤ 600) (he : e < E) (h5 : M 10 5 = 0) (hle : lo e = 205) (hW : M 11 0 = nI W) (hW3 : W < 30) : Pl (lkW M e) (fun x => if lo x = 205 then 100 + W else lo x) := by
  have hq := ok.q20
  have hc : (M 11 0).toNatClampNeg = W := by rw [hW]; exact nI_clamp (by omega)
  have h11 : lkW M e 11 0 = nI (W + 1) := by
    show upd (M 11) 0 (M 11 0 + 1) 0 = _
    unfold upd
    rw [if_pos rfl, hW, nI_1]
  have h12 : ∀ k, lkW M e 12 k = upd (M 12) W (nI e) k := fun k => by
    show upd (M 12) (M 11 0).toNatClampNeg (nI e) k = _
    rw [hc]
  refine ⟨fun k hk => ?_, fun k hk => ?_, fun k hk hn => ?_, fun p hp k hk => ?_⟩
  · have := h.1 k hk
    have hk2 : k < (M 8 0).toNatClampNeg := hk
    show (if lo (M 9 k).toNatClampNeg = 205 then 100 + W else lo (M 9 k).toNatClampNeg) = k
    rw [this, if_neg (by omega)]
  · rw [h11, nI_clamp (by omega)] at hk
    rw [h12]
    unfold upd
    by_cases q : k = W
    · rw [if_pos q, nI_clamp (by omega)]
      show (if lo e = 205 then 100 + W else lo e) = 100 + k
      rw [if_pos hle, q]
    · rw [if_neg q]
      have := h.2.1 k (by rw [hc]; omega)
      show (if lo (M 12 k).toNatClampNeg = 205 then 100 + W else lo (M 12 k).toNatClampNeg) = 100 + k
      rw [this, if_neg (by omega)]
  · have hn2 : ¬ M 10 k - 1 < 0 := hn
    have hk5 : k ≠ 5 := fun q => hn2 (by rw [q, h5]; exact z1lt)
    have := h.2.2.1 k hk hn2
    show (if lo (eN M k) = 205 then 100 + W else lo (eN M k)) = 200 + k
    rw [this, if_neg (by omega)]
  · have := h.2.2.2 p hp k hk
    show (if lo (trE M p k) = 205 then 100 + W else lo (trE M p k)) = 300 + 6 * p + k
    rw [this, if_neg (by omega)]
theorem TI.lk (h : TI M E now) (hE : E ≤ 600) : TI (lkM M) E now := by
  unfold lkM
  split
  · rename_i h0
    have he := (h.1.egg hE (k := 5) (by decide) (Int32.not_lt.mpr h0)).1
    have hz := h.z (k := 5)
    unfold lk2
    split
    · exact h
    · split
      · split
        · exact hz.in15
        · rename_i h3
          obtain ⟨W, hW, e1, -⟩ := h.1.2.2.1
          have hlt : W < 30 := Nat.lt_of_not_le (fun q => h3 (by rw [e1]; exact nI_le (a := 30) q (by omega)))
          have hok := h.1.z (k := 5)
          obtain ⟨-, ⟨lo, pl⟩, x3, x4, x5, x6⟩ := h
          have hle : lo (eN M 5) = 205 := pl.2.2.1 5 (by decide) (Int32.not_lt.mpr h0)
          have hc : (M 11 0).toNatClampNeg = W := by rw [e1]; exact nI_clamp (by omega)
          refine ⟨hok.lkW he h3, ⟨_, (pl.z (k := 5)).lkw hok hE he (by rw [up2_e]) hle e1 hlt⟩, x3.c rfl, fun i hi => ?_, x5.c rfl rfl rfl rfl rfl, x6⟩
          have h11 : lkW (up2 M 10 5 0) (eN M 5) 11 0 = nI (W + 1) := by
            show upd (M 11) 0 (M 11 0 + 1) 0 = _
            unfold upd
            rw [if_pos rfl, e1, nI_1]
          rw [h11, nI_clamp (by omega)] at hi
          show ∃ x : Nat, x ≤ now ∧ upd (M 13) (M 11 0).toNatClampNeg (M 35 0 + 8) i = nI (x + 8)
          rw [hc]
          unfold upd
          by_cases q : i = W
          · rw [if_pos q, x6.1]
            exact ⟨now, Nat.le_refl _, nI_add now 8⟩
          · rw [if_neg q]
            exact x4 i (by rw [hc]; omega)
      · exact hz.in15
  · exact h
theorem tk1_o {p e g : Nat} (h10 : g ≠ 10) (h20 : g ≠ 20) (h19 : g ≠ 19) (h18 : g ≠ 18) (h15 : g ≠ 15) : tk1 M p e g = M g := by
  unfold tk1 in15
  rw [up2_n h15, up2_n h18, up2_n h19, up2_n h20, up2_n h10]
theorem tk1_10 {p e : Nat} : tk1 M p e 10 = upd (M 10) (8 + 2 * p) 0 := by
  unfold tk1 in15
  rw [up2_n (by decide), up2_n (by decide), up2_n (by decide), up2_n (by decide), up2_s]
theorem tk1_20 {p e t : Nat} (ht : M 19 p = nI t) (ht5 : t ≤ 5) : tk1 M p e 20 = upd (M 20) (6 * p + t) (nI e) := by
  unfold tk1 in15
  rw [up2_n (by decide), up2_n (by decide), up2_n (by decide), up2_s, up2_n (by decide), ht, nI_clamp (by omega)]
theorem tk1_19' {p e : Nat} : tk1 M p e 19 = upd (M 19) p (M 19 p + 1) := by
  unfold tk1 in15
  rw [up2_n (by decide), up2_n (by decide), up2_s, up2_n (by decide), up2_n (by decide)]
theorem Pl.tk1 {p e t : Nat} (h : Pl M lo) (ok : OKM M E) (hE : E ≤ 600) (hp : p < 4) (he : e < E) (ht : M 19 p = nI t) (ht5 : t ≤ 5) (hle : lo e = 208 + 2 * p) : Pl (tk1 M p e) (fun x => if lo x = 208 + 2 * p then 300 + 6 * p + t else lo x) := by
  have hq := ok.q20
  have hw := ok.w30
  have hct : (M 19 p).toNatClampNeg = t := by rw [ht]; exact nI_clamp (by omega)
  refine ⟨fun k hk => ?_, fun k hk => ?_, fun k hk hn => ?_, fun q hq4 k hk => ?_⟩
  · rw [tk1_o (by decide) (by decide) (by decide) (by decide) (by decide)] at hk ⊢
    have := h.1 k hk
    show (if lo (M 9 k).toNatClampNeg = 208 + 2 * p then 300 + 6 * p + t else lo (M 9 k).toNatClampNeg) = k
    rw [this, if_neg (by omega)]
  · rw [tk1_o (by decide) (by decide) (by decide) (by decide) (by decide)] at hk ⊢
    have := h.2.1 k hk
    show (if lo (M 12 k).toNatClampNeg = 208 + 2 * p then 300 + 6 * p + t else lo (M 12 k).toNatClampNeg) = 100 + k
    rw [this, if_neg (by omega)]
  · unfold eN
    rw [tk1_10] at hn ⊢
    by_cases hk8 : k = 8 + 2 * p
    · exact absurd (by rw [hk8]; show upd (M 10) (8 + 2 * p) 0 (8 + 2 * p) - 1 < 0; unfold upd; rw [if_pos rfl]; exact z1lt) hn
    · rw [upd_o hk8] at hn ⊢
      have := h.2.2.1 k hk hn
      show (if lo (eN M k) = 208 + 2 * p then 300 + 6 * p + t else lo (eN M k)) = 200 + k
      rw [this, if_neg (by omega)]
  · unfold trE
    rw [tk1_20 ht ht5]
    rw [tk1_19'] at hk
    by_cases hqp : q = p
    · subst hqp
      rw [show upd (M 19) q (M 19 q + 1) q = M 19 q + 1 from if_pos rfl, ht, nI_1, nI_clamp (by omega)] at hk
      by_cases hkt : k = t
      · subst hkt
        rw [show upd (M 20) (6 * q + k) (nI e) (6 * q + k) = nI e from if_pos rfl, nI_clamp (by omega)]
        show (if lo e = 208 + 2 * q then 300 + 6 * q + k else lo e) = 300 + 6 * q + k
        rw [if_pos hle]
      · rw [upd_o (by omega)]
        have := h.2.2.2 q hq4 k (by rw [hct]; omega)
        show (if lo (trE M q k) = 208 + 2 * q then 300 + 6 * q + t else lo (trE M q k)) = 300 + 6 * q + k
        rw [this, if_neg (by omega)]
    · rw [upd_o hqp] at hk
      have h5 := ok.t5 hq4
      have := h.2.2.2 q hq4 k hk
      rw [upd_o (by omega)]
      show (if lo (trE M q k) = 208 + 2 * p then 300 + 6 * p + t else lo (trE M q k)) = 300 + 6 * q + k
      rw [this, if_neg (by omega)]
theorem Pl.pk {p a : Nat} (h : Pl M lo) : Pl (pkM M p a) lo := by
  unfold Pl eN trE
  rw [pkM_8, pkM_9, pkM_11, pkM_12, pkM_10, pkM_19, pkM_20]
  refine ⟨h.1, h.2.1, h.2.2.1, fun q hq k hk => ?_⟩
  by_cases hqp : q = p
  · rw [hqp, show upd (M 19) p 0 p = 0 from if_pos rfl] at hk
    exact absurd hk (by show ¬ k < (nI 0).toNatClampNeg; rw [nI_clamp (by omega)]; omega)
  · rw [upd_o hqp] at hk
    exact h.2.2.2 q hq k hk
theorem or4 : ∀ m, m < 16 → ∀ b, b < 4 → ∃ q, q < 16 ∧ 1 ≤ q ∧ nI m ||| (1 <<< (nI b &&& 31)) = nI q := by decide +kernel
theorem bts_ok {p : Nat} : ∀ n, (∀ k, k < n → ∃ b : Nat, b < 4 ∧ M 1 (trE M p k) = nI b) → ∃ m : Nat, m < 16 ∧ (0 < n → 1 ≤ m) ∧ btsN M p n = nI m
  | 0, _ => ⟨0, by decide, fun h => absurd h (by omega), rfl⟩
  | n + 1, h => by
    obtain ⟨m, hm, -, e⟩ := bts_ok n (fun k hk => h k (by omega))
    obtain ⟨b, hb, eb⟩ := h n (by omega)
    obtain ⟨q, q1, q2, q3⟩ := or4 m hm b hb
    refine ⟨q, q1, fun _ => q2, ?_⟩
    show btsN M p n ||| (1 <<< (M 1 (trE M p n) &&& 31)) = nI q
    rw [e, eb]; exact q3
theorem trF_ok {p : Nat} : ∀ n, (∀ k, k ≤ n - 1 → ∃ x : Nat, x ≤ now ∧ M 7 (trE M p k) = nI x) → (∃ x : Nat, x ≤ now ∧ trF M p n = nI x) ∧ ∃ x : Nat, x ≤ now ∧ trL M p n = nI x
  | 0, h => ⟨h 0 (by omega), h 0 (by omega)⟩
  | n + 1, h => by
    obtain ⟨i1, i2⟩ := trF_ok n (fun k hk => h k (by omega))
    have h9 := h n (by omega)
    refine ⟨?_, ?_⟩
    · show ∃ x : Nat, x ≤ now ∧ (if trF M p n ≤ M 7 (trE M p n) then trF M p n else M 7 (trE M p n)) = nI x
      split
      · exact i1
      · exact h9
    · show ∃ x : Nat, x ≤ now ∧ (if M 7 (trE M p n) ≤ trL M p n then trL M p n else M 7 (trE M p n)) = nI x
      split
      · exact i2
      · exact h9
theorem PkOK.pk {p P : Nat} (h : PkOK M P) (h35 : M 35 0 = nI now) (hn : now ≤ 30000) (hb : ∀ k, k < 6 → ∃ b : Nat, b < 4 ∧ M 1 (trE M p k) = nI b) (h7 : ∀ k, k < 6 → ∃ x : Nat, x ≤ now ∧ M 7 (trE M p k) = nI x) : PkOK (pkM M p P) (P + 1) := by
  intro i hi
  rw [pkM_23, pkM_24, pkM_25, pkM_29, pkM_35]
  by_cases q : i = P
  · subst q
    unfold upd
    rw [if_pos rfl, if_pos rfl, if_pos rfl, if_pos rfl]
    obtain ⟨m, hm, hm1, e⟩ := bts_ok (M := M) (p := p) 6 hb
    obtain ⟨⟨x, hx, ex⟩, y, hy, ey⟩ := trF_ok (M := M) (p := p) (now := now) 6 (fun k hk => h7 k (by omega))
    refine ⟨⟨m, hm1 (by decide), by omega, e⟩, ?_, ?_, Or.inl rfl⟩
    · rw [ex, h35]; exact nI_le hx (by omega)
    · rw [ey]; exact nI_pos' (by omega)
  · rw [upd_o q, upd_o q, upd_o q, upd_o q]
    exact h i (by omega)
theorem TI.tk {p : Nat} (h : TI M E now) (hE : E ≤ 600) (hp : p < 4) : TI (tkM M p) E now := by
  have hok := h.1.tk hE hp
  have key : ∀ (heq : tkM M p = tk2 M p (eN M (8 + 2 * p))) (h0 : ¬ M 10 (8 + 2 * p) - 1 < 0), TI (tkM M p) E now := fun heq h0 => by
    rw [heq] at hok ⊢
    have he := (h.1.egg hE (k := 8 + 2 * p) (by omega) h0).1
    obtain ⟨t, ht5, ht, htk⟩ := h.1.2.2.2.1 p hp
    obtain ⟨h1, ⟨lo, pl⟩, h3, h4, h5, h6⟩ := h
    have hle : lo (eN M (8 + 2 * p)) = 208 + 2 * p := by rw [pl.2.2.1 (8 + 2 * p) (by omega) h0]; omega
    have pl1 := pl.tk1 h1 hE hp he ht ht5 hle
    refine ⟨hok, ?_⟩
    unfold tk2
    split
    · rename_i h66
      have ht55 : t = 5 := by
        rw [ht, nI_1] at h66
        have := (nI_eq (by omega) (by decide)).mp (show nI (t + 1) = nI 6 from h66)
        omega
      obtain ⟨P, hP6, eP⟩ := h1.2.2.2.2.1
      have hcP : (M 21 0).toNatClampNeg = P := by rw [eP]; exact nI_clamp (by omega)
      have hT : ∀ k, k < 6 → ∃ e : Nat, e < E ∧ trE (tk1 M p (eN M (8 + 2 * p))) p k = e := fun k hk => by
        unfold trE
        rw [tk1_20 ht ht5]
        unfold upd
        by_cases q : 6 * p + k = 6 * p + t
        · rw [if_pos q, nI_clamp (by omega)]; exact ⟨_, he, rfl⟩
        · rw [if_neg q]
          obtain ⟨e, he2, ee⟩ := htk k (by omega)
          rw [ee, nI_clamp (by omega)]; exact ⟨e, he2, rfl⟩
      refine ⟨⟨_, pl1.pk⟩, ?_, ?_, ?_, ?_⟩
      · exact h3.c (by rw [pkM_7, tk1_o (by decide) (by decide) (by decide) (by decide) (by decide)])
      · exact h4.c (by rw [pkM_11, tk1_o (by decide) (by decide) (by decide) (by decide) (by decide)]) (by rw [pkM_13, tk1_o (by decide) (by decide) (by decide) (by decide) (by decide)])
      · rw [pkM_21, tk1_21, hcP, show upd (M 21) 0 (M 21 0 + 1) 0 = M 21 0 + 1 from if_pos rfl, eP, nI_1, nI_clamp (by omega)]
        rw [hcP] at h5
        have h5' : PkOK (tk1 M p (eN M (8 + 2 * p))) P := h5.c (tk1_o (by decide) (by decide) (by decide) (by decide) (by decide)) (tk1_o (by decide) (by decide) (by decide) (by decide) (by decide)) (tk1_o (by decide) (by decide) (by decide) (by decide) (by decide)) (tk1_o (by decide) (by decide) (by decide) (by decide) (by decide)) (tk1_o (by decide) (by decide) (by decide) (by decide) (by decide))
        refine h5'.pk (now := now) (by rw [tk1_o (by decide) (by decide) (by decide) (by decide) (by decide)]; exact h6.1) h6.2 (fun k hk => ?_) (fun k hk => ?_)
        · obtain ⟨e, he2, ee⟩ := hT k hk
          rw [ee, tk1_o (by decide) (by decide) (by decide) (by decide) (by decide)]
          exact h1.2.2.2.2.2 e he2
        · obtain ⟨e, he2, ee⟩ := hT k hk
          rw [ee, tk1_o (by decide) (by decide) (by decide) (by decide) (by decide)]
          exact h3 e he2
      · rw [pkM_35, tk1_o (by decide) (by decide) (by decide) (by decide) (by decide)]; exact h6
    · have o := @tk1_o M p (eN M (8 + 2 * p))
      refine ⟨⟨_, pl1⟩, h3.c (o (by decide) (by decide) (by decide) (by decide) (by decide)), h4.c (o (by decide) (by decide) (by decide) (by decide) (by decide)) (o (by decide) (by decide) (by decide) (by decide) (by decide)), ?_, ?_⟩
      · rw [tk1_21]
        exact h5.c (o (by decide) (by decide) (by decide) (by decide) (by decide)) (o (by decide) (by decide) (by decide) (by decide) (by decide)) (o (by decide) (by decide) (by decide) (by decide) (by decide)) (o (by decide) (by decide) (by decide) (by decide) (by decide)) (o (by decide) (by decide) (by decide) (by decide) (by decide))
      · rw [o (by decide) (by decide) (by decide) (by decide) (by decide)]; exact h6
  by_cases b1 : M 18 p ≤ 0
  · by_cases b2 : M 10 (8 + 2 * p) - 1 < 0
    · rw [show tkM M p = M from (if_pos b1).trans (if_pos b2)]; exact h
    · by_cases b3 : tkZ M p (eN M (8 + 2 * p)) = 0
      · rw [tkM_0 h.1 hp b1 b2 b3]; exact h
      · exact key (tkM_1 h.1 hp b1 b2 b3).1 b2
  · rw [show tkM M p = up2 M 18 p (M 18 p - 1) from if_neg b1]
    exact h.c (fun g q => up2_n (fun z => by omega))
theorem TI.tk4 (h : TI M E now) (hE : E ≤ 600) : ∀ p, p ≤ 4 → TI (tk4 M p) E now
  | 0, _ => h
  | p + 1, hp => (TI.tk4 h hE p (by omega)).tk hE (by omega)
theorem Pl.d1 {Q W : Nat} (h : Pl M lo) (hQ : M 8 0 = nI Q) (hQ2 : Q < 20) (hW : M 11 0 = nI W) (hW3 : W ≤ 30) (h0 : 0 < W) : Pl (dr1 M) (fun x => if lo x = 100 then Q else if 100 < lo x ∧ lo x < 200 then lo x - 1 else lo x) := by
  have hcQ : (M 8 0).toNatClampNeg = Q := by rw [hQ]; exact nI_clamp (by omega)
  have hcW : (M 11 0).toNatClampNeg = W := by rw [hW]; exact nI_clamp (by omega)
  have h8 : dr1 M 8 0 = nI (Q + 1) := by
    show upd (M 8) 0 (M 8 0 + 1) 0 = _
    unfold upd
    rw [if_pos rfl, hQ, nI_1]
  have h11 : dr1 M 11 0 = nI (W - 1) := by
    show upd (M 11) 0 (M 11 0 - 1) 0 = _
    unfold upd
    rw [if_pos rfl]; exact nI_pr hW h0
  refine ⟨fun k hk => ?_, fun k hk => ?_, fun k hk hn => ?_, fun p hp k hk => ?_⟩
  · rw [h8, nI_clamp (by omega)] at hk
    rw [show dr1 M 9 k = upd (M 9) Q (M 12 0) k by show upd (M 9) (M 8 0).toNatClampNeg (M 12 0) k = _; rw [hcQ]]
    unfold upd
    by_cases q : k = Q
    · rw [if_pos q]
      have := h.2.1 0 (by rw [hcW]; exact h0)
      show (if lo (M 12 0).toNatClampNeg = 100 then Q else if 100 < lo (M 12 0).toNatClampNeg ∧ lo (M 12 0).toNatClampNeg < 200 then lo (M 12 0).toNatClampNeg - 1 else lo (M 12 0).toNatClampNeg) = k
      rw [if_pos this, q]
    · rw [if_neg q]
      have := h.1 k (by rw [hcQ]; omega)
      show (if lo (M 9 k).toNatClampNeg = 100 then Q else if 100 < lo (M 9 k).toNatClampNeg ∧ lo (M 9 k).toNatClampNeg < 200 then lo (M 9 k).toNatClampNeg - 1 else lo (M 9 k).toNatClampNeg) = k
      rw [this, if_neg (by omega), if_neg (by omega)]
  · rw [h11, nI_clamp (by omega)] at hk
    rw [dr1_12, hcW]
    unfold shf
    rw [if_pos hk]
    have := h.2.1 (k + 1) (by rw [hcW]; omega)
    show (if lo (M 12 (k + 1)).toNatClampNeg = 100 then Q else if 100 < lo (M 12 (k + 1)).toNatClampNeg ∧ lo (M 12 (k + 1)).toNatClampNeg < 200 then lo (M 12 (k + 1)).toNatClampNeg - 1 else lo (M 12 (k + 1)).toNatClampNeg) = 100 + k
    rw [this, if_neg (by omega), if_pos (by omega)]
    omega
  · have := h.2.2.1 k hk hn
    show (if lo (eN M k) = 100 then Q else if 100 < lo (eN M k) ∧ lo (eN M k) < 200 then lo (eN M k) - 1 else lo (eN M k)) = 200 + k
    rw [this, if_neg (by omega), if_neg (by omega)]
  · have := h.2.2.2 p hp k hk
    show (if lo (trE M p k) = 100 then Q else if 100 < lo (trE M p k) ∧ lo (trE M p k) < 200 then lo (trE M p k) - 1 else lo (trE M p k)) = 300 + 6 * p + k
    rw [this, if_neg (by omega), if_neg (by omega)]
theorem TI.d1 (h : TI M E now) (h0 : ¬ M 11 0 ≤ 0) (h2 : ¬ 20 ≤ M 8 0) : TI (dr1 M) E now := by
  have hok := h.1.d1 h0 h2
  obtain ⟨Q, hQ, eQ, -⟩ := h.1.1
  obtain ⟨W, hW, eW, -⟩ := h.1.2.2.1
  have hQ2 : Q < 20 := Nat.lt_of_not_le (fun q => h2 (by rw [eQ]; exact nI_le (a := 20) q (by omega)))
  have hW0 : 0 < W := Nat.pos_of_ne_zero (fun q => h0 (by rw [eW, q]; decide))
  obtain ⟨h1, ⟨lo, pl⟩, h3, h4, h5, h6⟩ := h
  exact ⟨hok, ⟨_, pl.d1 eQ hQ2 eW hW hW0⟩, h3.c rfl, h4.d1 eW hW hW0, h5.c rfl rfl rfl rfl rfl, h6⟩
theorem TI.dr : ∀ (n : Nat) {M : Nat → Nat → Int32}, TI M E now → TI (drN n M) E now
  | 0, _, h => h
  | n + 1, M, h => by
    show TI (if M 11 0 ≤ 0 then M else if M 35 0 < M 13 0 then M else if 20 ≤ M 8 0 then M else drN n (dr1 M)) E now
    split
    · exact h
    · split
      · exact h
      · split
        · exact h
        · rename_i a b c
          exact TI.dr n (h.d1 a c)
theorem Pl.fd {Q : Nat} (h : Pl M lo) (ok : OKM M E) (hE : E ≤ 600) (hQ : M 8 0 = nI Q) (hQ2 : Q ≤ 20) (h0 : 0 < Q) : Pl (fdM M) (fun x => if lo x = 0 then 200 else if lo x < 100 then lo x - 1 else lo x) := by
  have hcQ : (M 8 0).toNatClampNeg = Q := by rw [hQ]; exact nI_clamp (by omega)
  rw [fd_eq hcQ (by rw [hQ]; exact nI_nle h0 (by omega))]
  obtain ⟨e0, he0, ee0⟩ : ∃ e : Nat, e < E ∧ M 9 0 = nI e := by
    obtain ⟨Q', h1, h2, h3⟩ := ok.1
    exact h3 0 (by have := (nI_eq (by omega) (by omega)).mp (hQ.symm.trans h2); omega)
  refine ⟨fun k hk => ?_, fun k hk => ?_, fun k hk hn => ?_, fun p hp k hk => ?_⟩
  · have hk2 : k < (upd (M 8) 0 (M 8 0 - 1) 0).toNatClampNeg := hk
    rw [show upd (M 8) 0 (M 8 0 - 1) 0 = M 8 0 - 1 from if_pos rfl, nI_pr hQ h0, nI_clamp (by omega)] at hk2
    have e9 : up2 (fdS (up2 M 8 0 (M 8 0 - 1)) (Q - 1)) 10 0 (M 9 0 + 1) 9 k = M 9 (k + 1) := by
      show shf (M 9) (Q - 1) k = _
      unfold shf
      rw [if_pos hk2]
    rw [e9]
    have := h.1 (k + 1) (by rw [hcQ]; omega)
    show (if lo (M 9 (k + 1)).toNatClampNeg = 0 then 200 else if lo (M 9 (k + 1)).toNatClampNeg < 100 then lo (M 9 (k + 1)).toNatClampNeg - 1 else lo (M 9 (k + 1)).toNatClampNeg) = k
    rw [this, if_neg (by omega), if_pos (by omega)]
    omega
  · have := h.2.1 k hk
    show (if lo (M 12 k).toNatClampNeg = 0 then 200 else if lo (M 12 k).toNatClampNeg < 100 then lo (M 12 k).toNatClampNeg - 1 else lo (M 12 k).toNatClampNeg) = 100 + k
    rw [this, if_neg (by omega), if_neg (by omega)]
  · by_cases q : k = 0
    · subst q
      have e10 : eN (up2 (fdS (up2 M 8 0 (M 8 0 - 1)) (Q - 1)) 10 0 (M 9 0 + 1)) 0 = (M 9 0).toNatClampNeg := by
        unfold eN
        rw [up2_e, ee0, nI_1, nI_pred]
      rw [e10]
      have := h.1 0 (by rw [hcQ]; exact h0)
      show (if lo (M 9 0).toNatClampNeg = 0 then 200 else if lo (M 9 0).toNatClampNeg < 100 then lo (M 9 0).toNatClampNeg - 1 else lo (M 9 0).toNatClampNeg) = 200 + 0
      rw [if_pos this]
    · have e10 : up2 (fdS (up2 M 8 0 (M 8 0 - 1)) (Q - 1)) 10 0 (M 9 0 + 1) 10 k = M 10 k := by
        rw [up2_o q]; rfl
      have e11 : eN (up2 (fdS (up2 M 8 0 (M 8 0 - 1)) (Q - 1)) 10 0 (M 9 0 + 1)) k = eN M k := by
        unfold eN
        rw [e10]
      rw [e10] at hn
      rw [e11]
      have := h.2.2.1 k hk hn
      show (if lo (eN M k) = 0 then 200 else if lo (eN M k) < 100 then lo (eN M k) - 1 else lo (eN M k)) = 200 + k
      rw [this, if_neg (by omega), if_neg (by omega)]
  · have := h.2.2.2 p hp k hk
    show (if lo (trE M p k) = 0 then 200 else if lo (trE M p k) < 100 then lo (trE M p k) - 1 else lo (trE M p k)) = 300 + 6 * p + k
    rw [this, if_neg (by omega), if_neg (by omega)]
theorem TI.fd (h : TI M E now) (hE : E ≤ 600) : TI (fdM M) E now := by
  have hok := h.1.fd
  obtain ⟨Q, hQ, eQ, -⟩ := h.1.1
  by_cases h0 : M 8 0 ≤ 0
  · rw [show fdM M = M from if_pos h0]; exact h
  · have hQ0 : 0 < Q := Nat.pos_of_ne_zero (fun q => h0 (by rw [eQ, q]; decide))
    obtain ⟨h1, ⟨lo, pl⟩, h3, h4, h5, h6⟩ := h
    have hcQ : (M 8 0).toNatClampNeg = Q := by rw [eQ]; exact nI_clamp (by omega)
    refine ⟨hok, ⟨_, pl.fd h1 hE eQ hQ hQ0⟩, ?_⟩
    rw [fd_eq hcQ h0]
    exact ⟨h3.c rfl, h4.c rfl rfl, h5.c rfl rfl rfl rfl rfl, h6⟩
theorem TI.up (h : TI M E now) (hn : now < 30000) : TI (up2 M 35 0 (M 35 0 + 1)) E (now + 1) := by
  obtain ⟨h1, ⟨lo, pl⟩, h3, h4, h5, h6⟩ := h
  have e35 : up2 M 35 0 (M 35 0 + 1) 35 0 = nI (now + 1) := by rw [up2_e, h6.1, nI_1]
  refine ⟨okm_35 h1, ⟨lo, pl.c rfl rfl rfl rfl rfl rfl rfl⟩, fun e he => ?_, fun i hi => ?_, fun i hi => ?_, e35, by omega⟩
  · obtain ⟨x, hx, ex⟩ := h3 e he
    exact ⟨x, by omega, ex⟩
  · obtain ⟨x, hx, ex⟩ := h4 i hi
    exact ⟨x, by omega, ex⟩
  · obtain ⟨d1, d2, d3, d4⟩ := h5 i hi
    refine ⟨d1, ?_, d3, d4⟩
    rw [e35]
    refine Int32.le_trans (show M 24 i ≤ M 35 0 from d2) ?_
    rw [h6.1]
    exact nI_le (by omega) (by omega)
theorem TI.tkA (h : TI M E now) : TI (tkA M) E now := h.s1.s2.s3
theorem TI.ot (h : TI M E now) (hE : E ≤ 600) (hn : now < 30000) : TI (otM M) E (now + 1) := ((TI.dr 30 ((h.tkA.lk hE).tk4 hE 4 (by decide))).fd hE).up hn
/-! the line's first cup is empty until it is fed -/
theorem z0_s3 (h : M 10 0 = 0) : s3M M 10 0 = 0 := by
  unfold s3M
  split
  · exact h
  · rw [up2_n (by decide), up2_n (by decide)]; exact h
theorem z0_lk (h : M 10 0 = 0) : lkM M 10 0 = 0 := by
  have hz : up2 M 10 5 0 10 0 = 0 := by rw [up2_o (by decide)]; exact h
  unfold lkM
  split
  · unfold lk2
    split
    · exact h
    · split
      · split
        · exact (congrFun (up2_n (by decide)) 0).trans hz
        · unfold lkW
          rw [up2_n (by decide), up2_n (by decide), up2_n (by decide), up2_n (by decide), up2_n (by decide)]
          exact hz
      · exact (congrFun (up2_n (by decide)) 0).trans hz
  · exact h
theorem z0_tk {p : Nat} (h : M 10 0 = 0) : tkM M p 10 0 = 0 := by
  have h1 : ∀ e, tk1 M p e 10 0 = 0 := fun e => by rw [tk1_10, upd_o (by omega)]; exact h
  have h2 : ∀ e, tk2 M p e 10 0 = 0 := fun e => by
    unfold tk2
    split
    · rw [pkM_10]; exact h1 e
    · exact h1 e
  unfold tkM
  split
  · split
    · exact h
    · split
      · split
        · split
          · split
            · exact h
            · exact h2 _
          · exact h2 _
        · exact h
      · exact h
  · rw [up2_n (by decide)]; exact h
theorem z0_tk4 (h : M 10 0 = 0) : ∀ p, tk4 M p 10 0 = 0
  | 0 => h
  | p + 1 => z0_tk (z0_tk4 h p)
theorem z0_dr : ∀ (n : Nat) {M : Nat → Nat → Int32}, M 10 0 = 0 → drN n M 10 0 = 0
  | 0, _, h => h
  | n + 1, M, h => by
    show (if M 11 0 ≤ 0 then M else if M 35 0 < M 13 0 then M else if 20 ≤ M 8 0 then M else drN n (dr1 M)) 10 0 = 0
    split
    · exact h
    · split
      · exact h
      · split
        · exact h
        · exact z0_dr n (show dr1 M 10 0 = 0 from h)
/-! what a tick leaves alone -/
theorem Tk.s1 (ok : OKM M E) (hE : E ≤ 600) : Tk E M (s1M M) := by
  unfold s1M
  split
  · exact Tk.rf
  · rename_i h0
    obtain ⟨b, hb, eb⟩ := ok.2.2.2.2.2 _ (ok.egg hE (k := 15) (by decide) h0).1
    have hbn : bN M (eN M 15) = b := by unfold bN; rw [eb]; exact nI_clamp (by omega)
    exact Tk.rf.up (by decide) (fun _ => by omega) (fun q => by omega)
theorem Tk.s2 : Tk E M (s2M M) := ⟨fun g q => if_neg (by omega), fun i _ => rfl, fun e _ => ⟨rfl, rfl⟩⟩
theorem Tk.s3 (ok : OKM M E) (hE : E ≤ 600) : Tk E M (s3M M) := by
  unfold s3M
  split
  · exact Tk.rf
  · rename_i h0
    have := (ok.egg hE (k := 2) (by decide) h0).1
    exact (Tk.rf.up (by decide) (fun q => by omega) (fun _ => this)).up (by decide) (fun q => by omega) (fun _ => this)
theorem Tk.in15 {x : Nat} (h : Tk E M N) (hx : x < 16) : Tk E M (in15 N x) := h.up (by decide) (fun _ => hx) (fun q => by omega)
theorem Tk.lk (ok : OKM M E) (hE : E ≤ 600) : Tk E M (lkM M) := by
  have hz : Tk E M (up2 M 10 5 0) := Tk.rf.up (by decide) (fun q => by omega) (fun q => by omega)
  unfold lkM
  split
  · rename_i h0
    obtain ⟨b, hb, eb⟩ := ok.2.2.2.2.2 _ (ok.egg hE (k := 5) (by decide) (Int32.not_lt.mpr h0)).1
    have hbn : bN M (eN M 5) = b := by unfold bN; rw [eb]; exact nI_clamp (by omega)
    unfold lk2
    split
    · exact Tk.rf
    · split
      · split
        · exact hz.in15 (by omega)
        · unfold lkW
          exact ((((hz.up (by decide) (fun q => by omega) (fun q => by omega)).up (by decide) (fun q => by omega) (fun q => by omega)).up (by decide) (fun q => by omega) (fun q => by omega)).up (by decide) (fun q => by omega) (fun q => by omega)).up (by decide) (fun q => by omega) (fun q => by omega)
      · refine hz.in15 ?_
        split <;> omega
  · exact Tk.rf
theorem Tk.pk {p a : Nat} (h : Tk E M N) : Tk E M (pkM N p a) := by
  unfold pkM pkI
  exact (((((((((h.up (by decide) (fun q => by omega) (fun q => by omega)).up (by decide) (fun q => by omega) (fun q => by omega)).up (by decide) (fun q => by omega) (fun q => by omega)).up (by decide) (fun q => by omega) (fun q => by omega)).up (by decide) (fun q => by omega) (fun q => by omega)).up (by decide) (fun q => by omega) (fun q => by omega)).up (by decide) (fun q => by omega) (fun q => by omega)).up (by decide) (fun q => by omega) (fun q => by omega)).up (by decide) (fun q => by omega) (fun q => by omega)).up (by decide) (fun q => by omega) (fun q => by omega)
theorem Tk.tk {p : Nat} (ok : OKM M E) (hE : E ≤ 600) (hp : p < 4) : Tk E M (tkM M p) := by
  by_cases b1 : M 18 p ≤ 0
  · by_cases b2 : M 10 (8 + 2 * p) - 1 < 0
    · rw [show tkM M p = M from (if_pos b1).trans (if_pos b2)]; exact Tk.rf
    · by_cases b3 : tkZ M p (eN M (8 + 2 * p)) = 0
      · rw [tkM_0 ok hp b1 b2 b3]; exact Tk.rf
      · rw [(tkM_1 ok hp b1 b2 b3).1]
        obtain ⟨b, hb, eb⟩ := ok.2.2.2.2.2 _ (ok.egg hE (k := 8 + 2 * p) (by omega) b2).1
        have hbn : bN M (eN M (8 + 2 * p)) = b := by unfold bN; rw [eb]; exact nI_clamp (by omega)
        have h1 : Tk E M (tk1 M p (eN M (8 + 2 * p))) := by
          unfold tk1
          exact ((((Tk.rf.up (by decide) (fun q => by omega) (fun q => by omega)).up (by decide) (fun q => by omega) (fun q => by omega)).up (by decide) (fun q => by omega) (fun q => by omega)).up (by decide) (fun q => by omega) (fun q => by omega)).in15 (by omega)
        unfold tk2
        split
        · exact h1.pk
        · exact h1
  · rw [show tkM M p = up2 M 18 p (M 18 p - 1) from if_neg b1]
    exact Tk.rf.up (by decide) (fun q => by omega) (fun q => by omega)
theorem Tk.tk4 (ok : OKM M E) (hE : E ≤ 600) : ∀ p, p ≤ 4 → Tk E M (tk4 M p)
  | 0, _ => Tk.rf
  | p + 1, hp => (Tk.tk4 ok hE p (by omega)).t (Tk.tk (ok.tk4 hE p (by omega)) hE (by omega))
theorem Tk.d1 : Tk E M (dr1 M) := by
  refine ⟨fun g q => ?_, fun i _ => rfl, fun e _ => ⟨rfl, rfl⟩⟩
  unfold dr1 drS drQ
  rw [if_neg (by omega), if_neg (by omega), up2_n (by omega), up2_n (by omega), up2_n (by omega)]
theorem Tk.dr : ∀ (n : Nat) {M : Nat → Nat → Int32}, Tk E M (drN n M)
  | 0, _ => Tk.rf
  | n + 1, M => by
    show Tk E M (if M 11 0 ≤ 0 then M else if M 35 0 < M 13 0 then M else if 20 ≤ M 8 0 then M else drN n (dr1 M))
    split
    · exact Tk.rf
    · split
      · exact Tk.rf
      · split
        · exact Tk.rf
        · exact Tk.d1.t (Tk.dr n)
theorem Tk.fd : Tk E M (fdM M) := by
  unfold fdM
  split
  · exact Tk.rf
  · refine ⟨fun g q => ?_, fun i _ => rfl, fun e _ => ⟨rfl, rfl⟩⟩
    unfold fdS
    rw [if_neg (by omega), up2_n (by omega), up2_n (by omega)]
theorem Tk.tkB (ok : OKM M E) (hE : E ≤ 600) : Tk E M (tkB M) :=
  (((((((Tk.s1 ok hE).t Tk.s2).t (Tk.s3 ok.s1.s2 hE)).t (Tk.lk ok.tkA hE)).t (Tk.tk4 (ok.tkA.lk hE) hE 4 (by decide))).t (Tk.dr 30)).t Tk.fd)
end C36

