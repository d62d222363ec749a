/-! the class: egg -/
def ix5 (b k : Nat) : Nat := if k = 0 then 16 + b else 4 * (k - 1) + b
theorem ix5_i {b k c m : Nat} (hb : b < 4) (hk : k < 5) (hc : c < 4) (hm : m < 5) (h : ix5 b k = ix5 c m) : b = c ∧ k = m := by
  unfold ix5 at h
  split at h <;> split at h <;> omega
theorem cBb.of {a : Nat → Nat} {S : CS} {M : Nat → Nat → Int32} (h1 : Is S (a 7) 11) (h2 : S.2.2.1 (a 7) = 4) (h3 : ∀ b, b < 4 → S.2.2.2.2.2.2.2 (a 7) b = some (a (10 + b)) ∧ Is S (a (10 + b)) 7 ∧ S.2.2.1 (a (10 + b)) = 5) (h4 : ∀ b k, b < 4 → k < 5 → S.2.2.2.2.2.2.1 (a (10 + b)) k = M 15 (ix5 b k)) : cBb a S M :=
  ⟨h1, h2, fun b hb => ⟨(h3 b hb).1, (h3 b hb).2.1, (h3 b hb).2.2, h4 b 0 hb (by decide), fun k hk => h4 b (k + 1) hb (by omega)⟩⟩
theorem cBb.ix {a : Nat → Nat} {S : CS} {M : Nat → Nat → Int32} (h : cBb a S M) {b k : Nat} (hb : b < 4) (hk : k < 5) : S.2.2.2.2.2.2.1 (a (10 + b)) k = M 15 (ix5 b k) := by
  rw [h.at hb hk]
  unfold row1 ix5
  split <;> rfl
section C28
variable {te : Nat} {S S' : CS} {a v : Nat → Nat} {w : Nat → Nat → Nat} {E Q W P O : Nat} {M : Nat → Nat → Int32} {T : Int64}
theorem CI.bb (c : CI te a v w E Q W P O S M T) {b k : Nat} (hb : b < 4) (hk : k < 5) (y : Int32) : CI te a v w E Q W P O (uA S (a (10 + b)) k y) (up2 M 15 (ix5 b k) y) T := by
  obtain ⟨c1, c2, c3, c4, c5, c6, c7, c8, c9, c10, c11, c12, c13⟩ := c
  refine ⟨c1, c2, c3, c4, c5, c6, c7, cTr.c (N := up2 M 15 (ix5 b k) y) c8 rfl rfl rfl rfl rfl rfl, c9, c10, c11, cBb.of c12.1 c12.2.1 (fun b hb => ⟨(c12.2.2 b hb).1, (c12.2.2 b hb).2.1, (c12.2.2 b hb).2.2.1⟩) (fun b2 k2 hb2 hk2 => ?_), c13⟩
  show up2 S.2.2.2.2.2.2.1 (a (10 + b)) k y (a (10 + b2)) k2 = up2 M 15 (ix5 b k) y 15 (ix5 b2 k2)
  by_cases h : b2 = b
  · subst h
    rw [up2_s, up2_s]
    by_cases h2 : k2 = k
    · subst h2
      unfold upd
      rw [if_pos rfl, if_pos rfl]
    · rw [upd_o h2, upd_o (fun z => h2 (ix5_i hb2 hk2 hb hk z).2)]
      exact c12.ix hb2 hk2
  · rw [up2_n (fun z => h (c13.2.2.2.2.2.2.2.1 b2 b hb2 hb z)), up2_s, upd_o (fun z => h (ix5_i hb2 hk2 hb hk z).1)]
    exact c12.ix hb2 hk2
theorem CI.m0 (c : CI te a v w E Q W P O S M T) (x : Nat) (y : Int32) : CI te a v w E Q W P O S (up2 M 0 x y) T := by
  obtain ⟨c1, c2, c3, c4, c5, c6, c7, c8, c9, c10, c11, c12, c13⟩ := c
  exact ⟨c1, c2, c3, c4, c5, c6, c7, cTr.c (N := up2 M 0 x y) c8 rfl rfl rfl rfl rfl rfl, c9, c10, c11, c12, c13⟩
/-! the trays' folds look at the trays' eggs alone -/
theorem tr_g {N : Nat → Nat → Int32} {p t : Nat} (h : ∀ k, k < t → N 20 (6 * p + k) = M 20 (6 * p + k) ∧ N 1 (trE M p k) = M 1 (trE M p k) ∧ N 2 (trE M p k) = M 2 (trE M p k) ∧ N 6 (trE M p k) = M 6 (trE M p k) ∧ N 7 (trE M p k) = M 7 (trE M p k)) :
    ∀ k, k ≤ t → btsN N p k = btsN M p k ∧ trW N p k = trW M p k ∧ trT N p k = trT M p k ∧ (0 < t → trF N p k = trF M p k ∧ trL N p k = trL M p k) := fun k => by
  have hE : ∀ k, k < t → trE N p k = trE M p k := fun k hk => by unfold trE; rw [(h k hk).1]
  induction k with
  | zero =>
    intro hk
    refine ⟨rfl, rfl, rfl, fun h0 => ⟨?_, ?_⟩⟩
    · show N 7 (trE N p 0) = M 7 (trE M p 0)
      rw [hE 0 h0, (h 0 h0).2.2.2.2]
    · show N 7 (trE N p 0) = M 7 (trE M p 0)
      rw [hE 0 h0, (h 0 h0).2.2.2.2]
  | succ k ih =>
    intro hk
    obtain ⟨i1, i2, i3, i4⟩ := ih (by omega)
    obtain ⟨g1, g2, g3, g4, g5⟩ := h k (by omega)
    refine ⟨?_, ?_, ?_, fun h0 => ⟨?_, ?_⟩⟩
    · show btsN N p k ||| (1 <<< (N 1 (trE N p k) &&& 31)) = btsN M p k ||| (1 <<< (M 1 (trE M p k) &&& 31))
      rw [i1, hE k (by omega), g2]
    · show trW N p k + N 2 (trE N p k) = trW M p k + M 2 (trE M p k)
      rw [i2, hE k (by omega), g3]
    · show trT N p k + N 6 (trE N p k) = trT M p k + M 6 (trE M p k)
      rw [i3, hE k (by omega), g4]
    · show (if trF N p k ≤ N 7 (trE N p k) then trF N p k else N 7 (trE N p k)) = (if trF M p k ≤ M 7 (trE M p k) then trF M p k else M 7 (trE M p k))
      rw [(i4 h0).1, hE k (by omega), g5]
    · show (if N 7 (trE N p k) ≤ trL N p k then trL N p k else N 7 (trE N p k)) = (if M 7 (trE M p k) ≤ trL M p k then trL M p k else M 7 (trE M p k))
      rw [(i4 h0).2, hE k (by omega), g5]
theorem cTr.g {N : Nat → Nat → Int32} (c : cTr w S M) (h : ∀ p, p < 4 → N 19 p = M 19 p ∧ ∀ k, k < (M 19 p).toNatClampNeg → N 20 (6 * p + k) = M 20 (6 * p + k) ∧ N 1 (trE M p k) = M 1 (trE M p k) ∧ N 2 (trE M p k) = M 2 (trE M p k) ∧ N 6 (trE M p k) = M 6 (trE M p k) ∧ N 7 (trE M p k) = M 7 (trE M p k)) : cTr w S N := fun p hp => by
  obtain ⟨h1, h2⟩ := h p hp
  obtain ⟨g1, g2, g3, g4⟩ := tr_g h2 _ (Nat.le_refl _)
  obtain ⟨d1, d2, d3, d4, d5, d6, d7⟩ := c p hp
  rw [h1]
  exact ⟨d1, by rw [g1]; exact d2, fun h0 => by rw [(g4 h0).1, (g4 h0).2]; exact d3 h0, d4, by rw [g2]; exact d5, by rw [g3]; exact d6, d7⟩
theorem CI.qe (c : CI te a v w E Q W P O S M T) (ok : OKM M E) : ∀ k, k < Q → ∃ e : Nat, e < E ∧ M 9 k = nI e := by
  obtain ⟨Q', h1, h2, h3⟩ := ok.1
  have e : Q = Q' := (nI_eq (by have := c.2.1.1.1; omega) (by omega)).mp (c.2.1.1.2.symm.trans h2)
  rw [e]; exact h3
theorem CI.we (c : CI te a v w E Q W P O S M T) (ok : OKM M E) : ∀ k, k < W → ∃ e : Nat, e < E ∧ M 12 k = nI e := by
  obtain ⟨W', h1, h2, h3⟩ := ok.2.2.1
  have e : W = W' := (nI_eq (by have := c.2.2.1.1.1; omega) (by omega)).mp (c.2.2.1.1.2.symm.trans h2)
  rw [e]; exact h3
theorem OKM.tr {p : Nat} (ok : OKM M E) (hE : E ≤ 600) (hp : p < 4) : ∀ k, k < (M 19 p).toNatClampNeg → trE M p k < E ∧ M 20 (6 * p + k) = nI (trE M p k) := by
  obtain ⟨t, h1, h2, h3⟩ := ok.2.2.2.1 p hp
  rw [h2, nI_clamp (by omega)]
  intro k hk
  obtain ⟨e, he, e9⟩ := h3 k hk
  unfold trE
  rw [e9, nI_clamp (by omega)]
  exact ⟨he, rfl⟩
theorem OKM.ln {k : Nat} (ok : OKM M E) (hE : E ≤ 600) (hk : k < 16) : M 10 k = 0 ∨ (¬ M 10 k = 0 ∧ ¬ M 10 k - 1 < 0 ∧ eN M k < E ∧ M 10 k - 1 = nI (eN M k)) := by
  obtain ⟨x, hx, e⟩ := ok.2.1 k hk
  by_cases h : x = 0
  · exact Or.inl (by rw [e, h]; rfl)
  · have h0 : ¬ M 10 k - 1 < 0 := Int32.not_lt.mpr ((nI_prn e (by omega)).mpr (by omega))
    refine Or.inr ⟨fun z => h ((nI_eq (b := 0) (by omega) (by omega)).mp (e.symm.trans z)), h0, ok.egg hE hk h0⟩
/-- an egg more -/
def egM (M : Nat → Nat → Int32) (E Q : Nat) (b y t r d : Int32) : Nat → Nat → Int32 := up2 (up2 (up2 (up2 (up2 (up2 (up2 M 1 E b) 2 E y) 3 E t) 4 E r) 5 E d) 9 Q (M 0 0)) 8 0 (M 8 0 + 1)
theorem CI.egg (c : CI te a v w E Q W P O S M T) (ok : OKM M E) (hE : E < 600) (h0 : M 0 0 = nI E) (h6 : M 6 E = 0 ∧ M 7 E = 0) {q : Nat} (hq : q ∉ S.1) {b y t r d : Int32} (hQ : Q < 20) (ht : te ∉ (nO S q 0).1) {e' cap' : Nat} (ap : AddP te (eggS (nO S q 0) q (M 0 0) b y t r d) S' (a 1) Q (v 1) (v 11) q e' cap') (hc : cap' ≤ 1000) : CI te a (vu v 1 e' cap') (wu w 0 E q) (E + 1) (Q + 1) W P O S' (egM M E Q b y t r d) T := by
  have rx : Rx S (eggS (nO S q 0) q (M 0 0) b y t r d) := ((((((Rx.new hq).uI hq).uI hq).uI hq).uI hq).uI hq).uI hq
  have hqi : Is (eggS (nO S q 0) q (M 0 0) b y t r d) q 0 := Is.new
  have L := rx.l4 c.l4
  have rp : Rp (eggS (nO S q 0) q (M 0 0) b y t r d) S' := ap.rp (L.1 1 I1) ht
  have re := (rx.rp.t rp).re c.re
  have d3 := c.d3
  have eg := c.2.2.2.2.2.2.2.2.2.1
  have qe := c.qe ok
  have we := c.we ok
  have wE : ∀ e, e < E → wu w 0 E q 0 e = w 0 e := fun e he => wu_o (Nat.ne_of_lt he)
  obtain ⟨c1, c2, c3, c4, c5, c6, c7, c8⟩ := re
  obtain ⟨-, -, -, -, -, yI, -, -⟩ := rp q hqi.1
  refine CI.asm ⟨c1, ⟨c2.1, c2.2.1, fun k hk => ?_⟩, c3, cTr.g (N := egM M E Q b y t r d) c4 (fun p hp => ⟨rfl, fun k hk => ?_⟩), c5, fun e he => ?_, c7, c8⟩ (L.add I1 ht ap (Or.inl hqi) hc rfl ?_ ?_ ?_ ?_) ⟨by omega, ?_⟩ c.2.2.1.1 c.2.2.2.1.1 c.2.2.2.2.1.1 (fun i hi => ?_) ⟨fun e f he hf => ?_, d3.2⟩
  · show S'.2.2.2.2.2.2.2 (a 3) k = if M 10 k = 0 then none else some (wu w 0 E q 0 (eN M k))
    rw [c2.2.2 k hk]
    rcases ok.ln (by omega) hk with z | ⟨z, -, z2, -⟩
    · rw [if_pos z, if_pos z]
    · rw [if_neg z, if_neg z, wE _ z2]
  · obtain ⟨z, -⟩ := ok.tr (by omega) hp k hk
    refine ⟨rfl, ?_, ?_, rfl, rfl⟩
    · show upd (M 1) E b (trE M p k) = _
      exact upd_o (Nat.ne_of_lt z)
    · show upd (M 2) E y (trE M p k) = _
      exact upd_o (Nat.ne_of_lt z)
  · show Is S' (wu w 0 E q 0 e) 0 ∧ S'.2.2.2.1 0 (wu w 0 E q 0 e) = nI e ∧ S'.2.2.2.1 1 (wu w 0 E q 0 e) = upd (M 1) E b e ∧ S'.2.2.2.1 2 (wu w 0 E q 0 e) = upd (M 2) E y e ∧ S'.2.2.2.1 3 (wu w 0 E q 0 e) = upd (M 3) E t e ∧ S'.2.2.2.1 4 (wu w 0 E q 0 e) = upd (M 4) E r e ∧ S'.2.2.2.1 5 (wu w 0 E q 0 e) = upd (M 5) E d e ∧ S'.2.2.2.1 6 (wu w 0 E q 0 e) = M 6 e ∧ S'.2.2.2.1 7 (wu w 0 E q 0 e) = M 7 e
    by_cases h : e = E
    · subst h
      rw [wu_e, yI 0 (by decide) (by decide), yI 1 (by decide) (by decide), yI 2 (by decide) (by decide), yI 3 (by decide) (by decide), yI 4 (by decide) (by decide), yI 5 (by decide) (by decide), yI 6 (by decide) (by decide), yI 7 (by decide) (by decide), h6.1, h6.2]
      unfold upd
      rw [if_pos rfl, if_pos rfl, if_pos rfl, if_pos rfl, if_pos rfl]
      refine ⟨rp.is hqi, ?_, ?_, ?_, ?_, ?_, ?_, ?_, ?_⟩
      · show up2 (up2 (up2 (up2 (up2 (up2 (zI S.2.2.2.1 q) 0 q (M 0 0)) 1 q b) 2 q y) 3 q t) 4 q r) 5 q d 0 q = nI e
        rw [up2_n (by decide), up2_n (by decide), up2_n (by decide), up2_n (by decide), up2_n (by decide), up2_e]; exact h0
      · show up2 (up2 (up2 (up2 (up2 (up2 (zI S.2.2.2.1 q) 0 q (M 0 0)) 1 q b) 2 q y) 3 q t) 4 q r) 5 q d 1 q = b
        rw [up2_n (by decide), up2_n (by decide), up2_n (by decide), up2_n (by decide), up2_e]
      · show up2 (up2 (up2 (up2 (up2 (up2 (zI S.2.2.2.1 q) 0 q (M 0 0)) 1 q b) 2 q y) 3 q t) 4 q r) 5 q d 2 q = y
        rw [up2_n (by decide), up2_n (by decide), up2_n (by decide), up2_e]
      · show up2 (up2 (up2 (up2 (up2 (up2 (zI S.2.2.2.1 q) 0 q (M 0 0)) 1 q b) 2 q y) 3 q t) 4 q r) 5 q d 3 q = t
        rw [up2_n (by decide), up2_n (by decide), up2_e]
      · show up2 (up2 (up2 (up2 (up2 (up2 (zI S.2.2.2.1 q) 0 q (M 0 0)) 1 q b) 2 q y) 3 q t) 4 q r) 5 q d 4 q = r
        rw [up2_n (by decide), up2_e]
      · show up2 (up2 (up2 (up2 (up2 (up2 (zI S.2.2.2.1 q) 0 q (M 0 0)) 1 q b) 2 q y) 3 q t) 4 q r) 5 q d 5 q = d
        rw [up2_e]
      · show up2 (up2 (up2 (up2 (up2 (up2 (zI S.2.2.2.1 q) 0 q (M 0 0)) 1 q b) 2 q y) 3 q t) 4 q r) 5 q d 6 q = 0
        rw [up2_n (by decide), up2_n (by decide), up2_n (by decide), up2_n (by decide), up2_n (by decide), up2_n (by decide)]
        exact if_pos rfl
      · show up2 (up2 (up2 (up2 (up2 (up2 (zI S.2.2.2.1 q) 0 q (M 0 0)) 1 q b) 2 q y) 3 q t) 4 q r) 5 q d 7 q = 0
        rw [up2_n (by decide), up2_n (by decide), up2_n (by decide), up2_n (by decide), up2_n (by decide), up2_n (by decide)]
        exact if_pos rfl
    · rw [wu_o h, upd_o h, upd_o h, upd_o h, upd_o h, upd_o h]
      exact c6 e (by omega)
  · intro k hk
    show wu w 0 E q 0 (upd (M 9) Q (M 0 0) k).toNatClampNeg = w 0 (M 9 k).toNatClampNeg
    have hk2 : k < Q := hk
    obtain ⟨e, he, e9⟩ := qe k hk2
    rw [upd_o (Nat.ne_of_lt hk2), e9, nI_clamp (by omega), wE e he]
  · show wu w 0 E q 0 (upd (M 9) Q (M 0 0) Q).toNatClampNeg = q
    unfold upd
    rw [if_pos rfl, h0, nI_clamp (by omega), wu_e]
  · rintro k (rfl | rfl | rfl | rfl) h
    · exact absurd rfl h
    · rfl
    · rfl
    · rfl
  · rintro k (rfl | rfl | rfl | rfl) h m hm
    · exact absurd rfl h
    · show wu w 0 E q 0 (M 12 m).toNatClampNeg = w 0 (M 12 m).toNatClampNeg
      obtain ⟨e, he, e9⟩ := we m hm
      rw [e9, nI_clamp (by omega), wE e he]
    · rfl
    · rfl
  · show upd (M 8) 0 (M 8 0 + 1) 0 = nI (Q + 1)
    unfold upd
    rw [if_pos rfl, c.2.1.1.2, nI_1]
  · have hl := (c.2.2.1.2.1.2.2.2.2.2 i hi).2
    have hin : w 0 (M 12 i).toNatClampNeg ∈ S.1 := by rcases hl with z | z | z <;> exact z.1
    show S'.2.2.2.1 8 (wu w 0 E q 0 (M 12 i).toNatClampNeg) + 8 = M 13 i
    obtain ⟨e, he, e9⟩ := we i hi
    rw [show wu w 0 E q 0 (M 12 i).toNatClampNeg = w 0 (M 12 i).toNatClampNeg by rw [e9, nI_clamp (by omega), wE e he]]
    rw [((rx.rp.t rp) _ hin).2.2.2.2.2.1 8 (by decide) (by decide)]
    exact c.2.2.1.2.2 i hi
  · show wu w 0 E q 0 e = wu w 0 E q 0 f → e = f
    by_cases h1 : e = E
    · by_cases h2 : f = E
      · exact fun _ => h1.trans h2.symm
      · rw [h1, wu_e, wu_o h2]
        exact fun z => absurd (by rw [z]; exact (eg f (by omega)).1.1) hq
    · by_cases h2 : f = E
      · rw [h2, wu_e, wu_o h1]
        exact fun z => absurd (by rw [← z]; exact (eg e (by omega)).1.1) hq
      · rw [wu_o h1, wu_o h2]
        exact d3.1 e f (by omega) (by omega)
theorem cap1 (cp : CapOK v) {e' cap' n : Nat} (hn : n ≤ 20) (h : cap' = v 11 ∨ (n = v 11 ∧ cap' = ncap (v 11))) : cap' ≤ 1000 ∧ CapOK (vu v 1 e' cap') := by
  have hc : cap' = 0 ∨ cap' = 10 ∨ cap' = 15 ∨ cap' = 22 := by
    rcases h with z | ⟨z1, z2⟩
    · rw [z]; exact cp.1
    · rcases cp.1 with y | y | y | y
      · rw [y] at z2; exact Or.inr (Or.inl z2)
      · rw [y] at z2; exact Or.inr (Or.inr (Or.inl z2))
      · rw [y] at z2; exact Or.inr (Or.inr (Or.inr z2))
      · omega
  exact ⟨by omega, hc, cp.2.1, cp.2.2.1, cp.2.2.2⟩
theorem ncap1 (cp : CapOK v) {n : Nat} (hn : n ≤ 20) (h : n = v 11) : ncap (v 11) ≤ 22 := by
  rcases cp.1 with y | y | y | y
  · rw [y]; decide
  · rw [y]; decide
  · rw [y]; decide
  · omega
theorem AddP.cap {p n e cap x e' cap' : Nat} (h : AddP te S S' p n e cap x e' cap') : cap' = cap ∨ (n = cap ∧ cap' = ncap cap) := by
  rcases h.2.2.2.2.2.2.1 with ⟨-, z, -⟩ | ⟨-, z, z2⟩
  · exact Or.inl z
  · exact Or.inr ⟨z, z2⟩
end C28
section C28b
variable {D : va_G} {ar : Nat → ClassId} {tg te mi : Nat} {S : CS}
variable {a v : Nat → Nat} {w : Nat → Nat → Nat} {E Q W P O : Nat} {M : Nat → Nat → Int32} {T : Int64}
set_option maxRecDepth 100000 in
theorem k_X4_egg (ci : CI te a v w E Q W P O S M T) (cp : CapOK v) (ok : OKM M E) (hE : E < 600) (h0 : M 0 0 = nI E) (h6 : M 6 E = 0 ∧ M 7 E = 0) (cm : CameOK M) (b y t r9 d : Int32)  : Cn D ar (XC tg te mi) yX4_egg cX4_egg 7 (some .int) 7 188 2 31 [.ref (a 0), .int b, .int y, .int t, .int r9, .int d] (cW ar S) (fun r w9 => r = some (.int (eggA M E Q b y t r9 d).2) ∧ ∃ (S' : CS) (v' : Nat → Nat) (w' : Nat → Nat → Nat) (E' Q' : Nat), w9 = cW ar S' ∧ CI te a v' w' E' Q' W P O S' (eggA M E Q b y t r9 d).1 T ∧ CapOK v' ∧ (eggA M E Q b y t r9 d).1 0 0 = nI E' ∧ E' ≤ E + 1) := by
  refine Cn.of (own := RX4) XC_ok (by decide) rfl (Nat.le_of_ble_eq_true rfl) (fun j C => ?_)
  have C0 := C.to
  show j _ 0 0 0 [(0, _), (1, _), (2, _), (3, _), (4, _), (5, _)] []
  have hs := ci.1
  have pk := ci.2.2.2.1
  have pa := ci.2.2.2.2.2.2.2.2.1
  have pr := ci.2.2.2.2.2.2.1
  have tr := ci.2.2.2.2.2.2.2.1
  have od := ci.2.2.2.2.1
  have oo := ci.2.2.2.2.2.2.2.2.2.2.1
  have qu := ci.2.1
  have hQ2 := qu.1.1
  have bb := ci.2.2.2.2.2.2.2.2.2.2.2.1
  refine r_iload_n C0 0 1 dX4_egg_0 rfl rfl ?_
  refine s_call (As := [.int _]) C0 1 1 (k_X4_isBarn XC_ok _ _) (rm_X4_isBarn (by decide) (by decide) (Nat.le_of_ble_eq_true rfl) (Nat.le_of_ble_eq_true rfl)) mlX4_45 st_X4_isBarn rfl (Nat.le_of_ble_eq_true rfl) dX4_egg_1 ?_
  rintro _ _ ⟨rfl, rfl⟩
  refine r_if_eq C0 4 28 dX4_egg_4 (by decide) (fun c_4 => ?_) (fun c_4 => ?_)
  · refine r_iconst C0 28 (-1) dX4_egg_28 (by decide) ?_
    refine r_iret C 29 dX4_egg_29 (Nat.le_of_ble_eq_true rfl) (Nat.le_of_ble_eq_true rfl) ?_
    exact ⟨by simp only [eggA, eq_true c_4]; rfl, S, v, w, E, Q, rfl, by simp only [eggA, eq_true c_4]; exact ci, cp, by simp only [eggA, eq_true c_4]; exact h0, Nat.le_succ _⟩
  · refine r_iload_n C0 7 2 dX4_egg_7 rfl rfl ?_
    refine r_bipush C0 8 30 dX4_egg_8 (by decide) ?_
    refine r_bipush C0 10 90 dX4_egg_10 (by decide) ?_
    refine s_call (As := [.int _, .int _, .int _]) C0 12 3 (k_X4_isWithin XC_ok _ _ _ _) (rm_X4_isWithin (by decide) (by decide) (Nat.le_of_ble_eq_true rfl) (Nat.le_of_ble_eq_true rfl)) mlX4_49 st_X4_isWithin rfl (Nat.le_of_ble_eq_true rfl) dX4_egg_12 ?_
    rintro _ _ ⟨rfl, rfl⟩
    refine r_if_eq C0 15 28 dX4_egg_15 (by decide) (fun c_15 => ?_) (fun c_15 => ?_)
    · refine r_iconst C0 28 (-1) dX4_egg_28 (by decide) ?_
      refine r_iret C 29 dX4_egg_29 (Nat.le_of_ble_eq_true rfl) (Nat.le_of_ble_eq_true rfl) ?_
      exact ⟨by simp only [eggA, eq_false c_4, eq_true c_15]; rfl, S, v, w, E, Q, rfl, by simp only [eggA, eq_false c_4, eq_true c_15]; exact ci, cp, by simp only [eggA, eq_false c_4, eq_true c_15]; exact h0, Nat.le_succ _⟩
    · refine r_iload_n C0 18 3 dX4_egg_18 rfl rfl ?_
      refine r_iconst C0 19 0 dX4_egg_19 (by decide) ?_
      refine r_bipush C0 20 15 dX4_egg_20 (by decide) ?_
      refine s_call (As := [.int _, .int _, .int _]) C0 22 3 (k_X4_isWithin XC_ok _ _ _ _) (rm_X4_isWithin (by decide) (by decide) (Nat.le_of_ble_eq_true rfl) (Nat.le_of_ble_eq_true rfl)) mlX4_49 st_X4_isWithin rfl (Nat.le_of_ble_eq_true rfl) dX4_egg_22 ?_
      rintro _ _ ⟨rfl, rfl⟩
      refine r_if_ne C0 25 30 dX4_egg_25 (by decide) (fun c_25 => ?_) (fun c_25 => ?_)
      · refine r_iload C0 30 dX4_egg_30 rfl ?_
        refine r_iconst C0 32 0 dX4_egg_32 (by decide) ?_
        refine r_bipush C0 33 9 dX4_egg_33 (by decide) ?_
        refine s_call (As := [.int _, .int _, .int _]) C0 35 3 (k_X4_isWithin XC_ok _ _ _ _) (rm_X4_isWithin (by decide) (by decide) (Nat.le_of_ble_eq_true rfl) (Nat.le_of_ble_eq_true rfl)) mlX4_49 st_X4_isWithin rfl (Nat.le_of_ble_eq_true rfl) dX4_egg_35 ?_
        rintro _ _ ⟨rfl, rfl⟩
        refine r_if_eq C0 38 51 dX4_egg_38 (by decide) (fun c_38 => ?_) (fun c_38 => ?_)
        · refine r_iconst C0 51 (-1) dX4_egg_51 (by decide) ?_
          refine r_iret C 52 dX4_egg_52 (Nat.le_of_ble_eq_true rfl) (Nat.le_of_ble_eq_true rfl) ?_
          exact ⟨by simp only [eggA, eq_false c_4, eq_false c_15, eq_false c_25, eq_true c_38]; rfl, S, v, w, E, Q, rfl, by simp only [eggA, eq_false c_4, eq_false c_15, eq_false c_25, eq_true c_38]; exact ci, cp, by simp only [eggA, eq_false c_4, eq_false c_15, eq_false c_25, eq_true c_38]; exact h0, Nat.le_succ _⟩
        · refine r_iload C0 41 dX4_egg_41 rfl ?_
          refine r_iconst C0 43 0 dX4_egg_43 (by decide) ?_
          refine r_iconst C0 44 3 dX4_egg_44 (by decide) ?_
          refine s_call (As := [.int _, .int _, .int _]) C0 45 3 (k_X4_isWithin XC_ok _ _ _ _) (rm_X4_isWithin (by decide) (by decide) (Nat.le_of_ble_eq_true rfl) (Nat.le_of_ble_eq_true rfl)) mlX4_49 st_X4_isWithin rfl (Nat.le_of_ble_eq_true rfl) dX4_egg_45 ?_
          rintro _ _ ⟨rfl, rfl⟩
          refine r_if_ne C0 48 53 dX4_egg_48 (by decide) (fun c_48 => ?_) (fun c_48 => ?_)
          · refine r_aload_n C0 53 0 dX4_egg_53 rfl rfl ?_
            refine cgR_1 C0 54 hs.2.1.1 flX4_10 hs.1 dX4_egg_54 ?_
            refine c_call (As := []) C0 57 0 (k_Jx4a65c_size_8abf5 XC_ok qu.2.1) (rm_Jx4a65c_size_8abf5 (by decide) (by decide) (Nat.le_of_ble_eq_true rfl) (Nat.le_of_ble_eq_true rfl)) mlX4_53 im_Jx4a65c_size_8abf5 se_Jx4a65c_size_8abf5 (by decide) rfl qu.2.1 rfl (Nat.le_of_ble_eq_true rfl) dX4_egg_57 ?_
            rintro _ _ ⟨rfl, rfl⟩
            rw [qu.2.2.1]
            refine r_bipush C0 60 20 dX4_egg_60 (by decide) ?_
            refine r_icmp_lt C0 62 68 dX4_egg_62 (by decide) (fun c_62 => ?_) (fun c_62 => ?_)
            · have hQ : Q < 20 := Nat.lt_of_not_le (fun z => absurd (nI_le (a := 20) z (by omega)) (Int32.not_le.mpr c_62))
              refine r_aload_n C0 68 0 dX4_egg_68 rfl rfl ?_
              refine r_iconst C0 69 0 dX4_egg_69 (by decide) ?_
              refine c_call (As := [.int _]) C0 70 1 (k_X4_ofAllBarns (k := 0) hs bb (by decide)) (rm_X4_ofAllBarns (by decide) (by decide) (Nat.le_of_ble_eq_true rfl) (Nat.le_of_ble_eq_true rfl)) mlX4_57 im_X4_ofAllBarns se_X4_ofAllBarns (by decide) rfl hs.1 rfl (Nat.le_of_ble_eq_true rfl) dX4_egg_70 ?_
              rintro _ _ ⟨rfl, rfl⟩
              refine r_istore (lv' := [(0, _), (1, _), (2, _), (3, _), (4, _), (5, _), (6, _)]) C0 73 dX4_egg_73 rfl (by decide) rfl ?_
              refine r_aload_n C0 75 0 dX4_egg_75 rfl rfl ?_
              refine cgR_1 C0 76 hs.2.1.1 flX4_10 hs.1 dX4_egg_76 ?_
              refine ca_new0 C0 79 clX4_19 (Nat.le_of_ble_eq_true rfl) (Nat.le_of_ble_eq_true rfl) dX4_egg_79 (fun q hq => ?_)
              refine r_dup C0 82 dX4_egg_82 rfl ?_
              refine r_iload C0 83 dX4_egg_83 rfl ?_
              refine r_iload_n C0 85 1 dX4_egg_85 rfl rfl ?_
              refine r_iload_n C0 86 2 dX4_egg_86 rfl rfl ?_
              refine r_iload_n C0 87 3 dX4_egg_87 rfl rfl ?_
              refine r_iload C0 88 dX4_egg_88 rfl ?_
              refine r_iload C0 90 dX4_egg_90 rfl ?_
              refine c_init (As := [.int _, .int _, .int _, .int _, .int _, .int _]) C0 92 6 (k_X0_init XC_ok Is.new _ _ _ _ _ _) (rm_X0_init (by decide) (by decide) (Nat.le_of_ble_eq_true rfl) (Nat.le_of_ble_eq_true rfl)) mlX4_61 im_X0_init rfl rfl (Nat.le_of_ble_eq_true rfl) dX4_egg_92 ?_
              rintro _ _ ⟨rfl, rfl⟩
              refine ca_teN C0 (fun hte => ?_)
              rw [cm]
              have rx : Rx S (eggS (nO S q 0) q (M 0 0) b y t r9 d) := ((((((Rx.new hq).uI hq).uI hq).uI hq).uI hq).uI hq).uI hq
              have hqi : Is (eggS (nO S q 0) q (M 0 0) b y t r9 d) q 0 := Is.new
              have L := rx.l4 ci.l4
              obtain ⟨x, hx, hbx⟩ := inR_3 c_4
              have hA : eggA M E Q b y t r9 d = (up2 (up2 (egM M E Q b y t r9 d) 15 (ix5 x 0) (egM M E Q b y t r9 d 15 (ix5 x 0) + 1)) 0 0 (M 0 0 + 1), M 0 0 + 1 - 1) := by
                unfold eggA
                rw [if_neg c_4, if_neg c_15, if_neg c_25, if_neg c_38, if_neg c_48, if_neg (by rw [qu.1.2]; exact fun z => absurd ((nI_eq (b := 20) (by omega) (by omega)).mp z) (by omega))]
                have hcl : b.toNatClampNeg = x := by rw [hbx]; exact nI_clamp (by omega)
                unfold eggM
                rw [hcl]
                rfl
              by_cases hf : Q < v 11
              · refine c_call (As := [.ref _]) C0 95 1 (k_addR (L.1 1 I1) hf (Or.inl hqi)) (rm_Jx4a65c_add_9ea2d (by decide) (by decide) (Nat.le_of_ble_eq_true rfl) (Nat.le_of_ble_eq_true rfl)) mlX4_64 im_Jx4a65c_add_9ea2d se_Jx4a65c_add_9ea2d (by decide) rfl (L.1 1 I1).1 rfl (Nat.le_of_ble_eq_true rfl) dX4_egg_95 ?_
                rintro _ _ ⟨rfl, S3, e', cap', rfl, ap⟩
                have c2 := ci.egg ok hE h0 h6 hq (by omega) hte ap (cap1 (e' := e') cp (n := Q) (by omega) ap.cap).1
                have bb2 := c2.2.2.2.2.2.2.2.2.2.2.2.1
                have d9 := bb2.2.2 x hx
                refine r_pop C0 98 dX4_egg_98 rfl ?_
                refine r_aload_n C0 99 0 dX4_egg_99 rfl rfl ?_
                refine cgR_7 C0 100 c2.1.2.1.2.2.2.2.2.2 flX4_39 c2.1.1 dX4_egg_100 ?_
                refine r_iload_n C0 103 1 dX4_egg_103 rfl rfl ?_
                refine ca_ald C0 104 x (by decide) bb2.1 hbx (by rw [bb2.2.1]; exact hx) (by rw [bb2.2.1]; decide) d9.1 dX4_egg_104 ?_
                refine r_iconst C0 105 0 dX4_egg_105 (by decide) ?_
                refine r_dup2 C0 106 dX4_egg_106 rfl rfl ?_
                refine ca_ild C0 107 0 d9.2.1 rfl (by rw [d9.2.2.1]; decide) (by rw [d9.2.2.1]; decide) dX4_egg_107 ?_
                rw [bb2.ix hx (by decide)]
                refine r_iconst C0 108 1 dX4_egg_108 (by decide) ?_
                refine r_iadd C0 109 dX4_egg_109 ?_
                refine ca_ist C0 110 0 d9.2.1 rfl (by rw [d9.2.2.1]; decide) (by rw [d9.2.2.1]; decide) dX4_egg_110 ?_
                refine r_iload C0 111 dX4_egg_111 rfl ?_
                refine r_iret C 113 dX4_egg_113 (Nat.le_of_ble_eq_true rfl) (Nat.le_of_ble_eq_true rfl) ?_
                rw [hA]
                exact ⟨by rw [h0, nI_1]; show some (Value.int _) = some (Value.int (nI (E + 1) - 1)); rw [show nI (E + 1) - 1 = nI (E + 1 - 1) from nI_pr rfl (by omega)]; rfl, _, _, _, _, _, rfl, (c2.bb hx (by decide) _).m0 0 _, (cap1 cp (n := Q) (by omega) ap.cap).2, by show up2 (up2 (egM M E Q b y t r9 d) 15 (ix5 x 0) (egM M E Q b y t r9 d 15 (ix5 x 0) + 1)) 0 0 (M 0 0 + 1) 0 0 = nI (E + 1); rw [up2_e, h0, nI_1], Nat.le_refl _⟩
              · have hv : Q = v 11 := by
                  have := qu.2.2.2.2.1.1
                  omega
                have hcap := ncap1 cp (n := Q) (by omega) hv
                have Lf : LsA te (eggS (nO S q 0) q (M 0 0) b y t r9 d) (a 1) (v 11) (v 1) (v 11) (ff M w 1) := by
                  have l := L.1 1 I1
                  rw [show nn Q W P O 1 = v 11 from hv] at l
                  exact l
                refine c_call (As := [.ref _]) C0 95 1 (k_addF Lf (Or.inl hqi)) (rm_Jx4a65c_add_9ea2d (by decide) (by decide) (Nat.le_of_ble_eq_true rfl) (show 0 + 9 + 0 + ncap (v 11) ≤ 31 by omega)) mlX4_64 im_Jx4a65c_add_9ea2d se_Jx4a65c_add_9ea2d (by decide) rfl (L.1 1 I1).1 rfl (Nat.le_of_ble_eq_true rfl) dX4_egg_95 ?_
                rintro _ _ ⟨rfl, S3, e', cap', rfl, ap⟩
                replace ap : AddP te (eggS (nO S q 0) q (M 0 0) b y t r9 d) S3 (a 1) Q (v 1) (v 11) q e' cap' := by rw [hv]; exact ap
                refine r_widen C0 2 31 (by decide) (by omega) ?_
                have c2 := ci.egg ok hE h0 h6 hq (by omega) hte ap (cap1 (e' := e') cp (n := Q) (by omega) ap.cap).1
                have bb2 := c2.2.2.2.2.2.2.2.2.2.2.2.1
                have d9 := bb2.2.2 x hx
                refine r_pop C0 98 dX4_egg_98 rfl ?_
                refine r_aload_n C0 99 0 dX4_egg_99 rfl rfl ?_
                refine cgR_7 C0 100 c2.1.2.1.2.2.2.2.2.2 flX4_39 c2.1.1 dX4_egg_100 ?_
                refine r_iload_n C0 103 1 dX4_egg_103 rfl rfl ?_
                refine ca_ald C0 104 x (by decide) bb2.1 hbx (by rw [bb2.2.1]; exact hx) (by rw [bb2.2.1]; decide) d9.1 dX4_egg_104 ?_
                refine r_iconst C0 105 0 dX4_egg_105 (by decide) ?_
                refine r_dup2 C0 106 dX4_egg_106 rfl rfl ?_
                refine ca_ild C0 107 0 d9.2.1 rfl (by rw [d9.2.2.1]; decide) (by rw [d9.2.2.1]; decide) dX4_egg_107 ?_
                rw [bb2.ix hx (by decide)]
                refine r_iconst C0 108 1 dX4_egg_108 (by decide) ?_
                refine r_iadd C0 109 dX4_egg_109 ?_
                refine ca_ist C0 110 0 d9.2.1 rfl (by rw [d9.2.2.1]; decide) (by rw [d9.2.2.1]; decide) dX4_egg_110 ?_
                refine r_iload C0 111 dX4_egg_111 rfl ?_
                refine r_iret C 113 dX4_egg_113 (Nat.le_of_ble_eq_true rfl) (Nat.le_of_ble_eq_true rfl) ?_
                rw [hA]
                exact ⟨by rw [h0, nI_1]; show some (Value.int _) = some (Value.int (nI (E + 1) - 1)); rw [show nI (E + 1) - 1 = nI (E + 1 - 1) from nI_pr rfl (by omega)]; rfl, _, _, _, _, _, rfl, (c2.bb hx (by decide) _).m0 0 _, (cap1 cp (n := Q) (by omega) ap.cap).2, by show up2 (up2 (egM M E Q b y t r9 d) 15 (ix5 x 0) (egM M E Q b y t r9 d 15 (ix5 x 0) + 1)) 0 0 (M 0 0 + 1) 0 0 = nI (E + 1); rw [up2_e, h0, nI_1], Nat.le_refl _⟩
            · have hQ : Q = 20 := by
                have : ¬ Q < 20 := fun z => c_62 (nI_lt (b := 20) z (by omega))
                omega
              have e6 : M 8 0 = 20 := by rw [qu.1.2, hQ]; rfl
              refine r_bipush C0 65 (-3) dX4_egg_65 (by decide) ?_
              refine r_iret C 67 dX4_egg_67 (Nat.le_of_ble_eq_true rfl) (Nat.le_of_ble_eq_true rfl) ?_
              exact ⟨by simp only [eggA, eq_false c_4, eq_false c_15, eq_false c_25, eq_false c_38, eq_false c_48, eq_false c_62, if_pos e6]; rfl, S, v, w, E, Q, rfl, by simp only [eggA, eq_false c_4, eq_false c_15, eq_false c_25, eq_false c_38, eq_false c_48, eq_false c_62, if_pos e6]; exact ci, cp, by simp only [eggA, eq_false c_4, eq_false c_15, eq_false c_25, eq_false c_38, eq_false c_48, eq_false c_62, if_pos e6]; exact h0, Nat.le_succ _⟩
          · refine r_iconst C0 51 (-1) dX4_egg_51 (by decide) ?_
            refine r_iret C 52 dX4_egg_52 (Nat.le_of_ble_eq_true rfl) (Nat.le_of_ble_eq_true rfl) ?_
            exact ⟨by simp only [eggA, eq_false c_4, eq_false c_15, eq_false c_25, eq_false c_38, eq_true c_48]; rfl, S, v, w, E, Q, rfl, by simp only [eggA, eq_false c_4, eq_false c_15, eq_false c_25, eq_false c_38, eq_true c_48]; exact ci, cp, by simp only [eggA, eq_false c_4, eq_false c_15, eq_false c_25, eq_false c_38, eq_true c_48]; exact h0, Nat.le_succ _⟩
      · refine r_iconst C0 28 (-1) dX4_egg_28 (by decide) ?_
        refine r_iret C 29 dX4_egg_29 (Nat.le_of_ble_eq_true rfl) (Nat.le_of_ble_eq_true rfl) ?_
        exact ⟨by simp only [eggA, eq_false c_4, eq_false c_15, eq_true c_25]; rfl, S, v, w, E, Q, rfl, by simp only [eggA, eq_false c_4, eq_false c_15, eq_true c_25]; exact ci, cp, by simp only [eggA, eq_false c_4, eq_false c_15, eq_true c_25]; exact h0, Nat.le_succ _⟩
end C28b
