/-! the class: takes, closeTray, letTake -/
theorem pkM_22 {M : Nat → Nat → Int32} {p a : Nat} : pkM M p a 22 = upd (M 22) a (M 16 p) := by
  unfold pkM pkI
  rw [up2_n (by decide), up2_n (by decide), up2_n (by decide), up2_n (by decide), up2_n (by decide), up2_n (by decide), up2_n (by decide), up2_n (by decide), up2_n (by decide), up2_s]
theorem pkM_23 {M : Nat → Nat → Int32} {p a : Nat} : pkM M p a 23 = upd (M 23) a (btsN M p 6) := by
  unfold pkM pkI
  rw [up2_n (by decide), up2_n (by decide), up2_n (by decide), up2_n (by decide), up2_n (by decide), up2_n (by decide), up2_n (by decide), up2_n (by decide), up2_s, up2_n (by decide)]
theorem pkM_24 {M : Nat → Nat → Int32} {p a : Nat} : pkM M p a 24 = upd (M 24) a (trF M p 6) := by
  unfold pkM pkI
  rw [up2_n (by decide), up2_n (by decide), up2_n (by decide), up2_n (by decide), up2_n (by decide), up2_n (by decide), up2_n (by decide), up2_s, up2_n (by decide), up2_n (by decide)]
theorem pkM_25 {M : Nat → Nat → Int32} {p a : Nat} : pkM M p a 25 = upd (M 25) a (trL M p 6) := by
  unfold pkM pkI
  rw [up2_n (by decide), up2_n (by decide), up2_n (by decide), up2_n (by decide), up2_n (by decide), up2_n (by decide), up2_s, up2_n (by decide), up2_n (by decide), up2_n (by decide)]
theorem pkM_26 {M : Nat → Nat → Int32} {p a : Nat} : pkM M p a 26 = upd (M 26) a (trW M p 6) := by
  unfold pkM pkI
  rw [up2_n (by decide), up2_n (by decide), up2_n (by decide), up2_n (by decide), up2_n (by decide), up2_s, up2_n (by decide), up2_n (by decide), up2_n (by decide), up2_n (by decide)]
theorem pkM_27 {M : Nat → Nat → Int32} {p a : Nat} : pkM M p a 27 = upd (M 27) a (trT M p 6) := by
  unfold pkM pkI
  rw [up2_n (by decide), up2_n (by decide), up2_n (by decide), up2_n (by decide), up2_s, up2_n (by decide), up2_n (by decide), up2_n (by decide), up2_n (by decide), up2_n (by decide)]
theorem pkM_28 {M : Nat → Nat → Int32} {p a : Nat} : pkM M p a 28 = upd (M 28) a (-9) := by
  unfold pkM pkI
  rw [up2_n (by decide), up2_n (by decide), up2_n (by decide), up2_s, up2_n (by decide), up2_n (by decide), up2_n (by decide), up2_n (by decide), up2_n (by decide), up2_n (by decide)]
theorem pkM_29 {M : Nat → Nat → Int32} {p a : Nat} : pkM M p a 29 = upd (M 29) a 0 := by
  unfold pkM pkI
  rw [up2_n (by decide), up2_n (by decide), up2_s, up2_n (by decide), up2_n (by decide), up2_n (by decide), up2_n (by decide), up2_n (by decide), up2_n (by decide), up2_n (by decide)]
theorem pkM_19 {M : Nat → Nat → Int32} {p a : Nat} : pkM M p a 19 = upd (M 19) p 0 := by
  unfold pkM pkI
  rw [up2_n (by decide), up2_s, up2_n (by decide), up2_n (by decide), up2_n (by decide), up2_n (by decide), up2_n (by decide), up2_n (by decide), up2_n (by decide), up2_n (by decide)]
theorem pkM_21 {M : Nat → Nat → Int32} {p a : Nat} : pkM M p a 21 = upd (M 21) 0 (M 21 0 + 1) := by
  unfold pkM pkI
  rw [up2_s, up2_n (by decide), up2_n (by decide), up2_n (by decide), up2_n (by decide), up2_n (by decide), up2_n (by decide), up2_n (by decide), up2_n (by decide), up2_n (by decide)]
theorem pkM_0 {M : Nat → Nat → Int32} {p a : Nat} : pkM M p a 0 = M 0 := by
  unfold pkM pkI
  rw [up2_n (by decide), up2_n (by decide), up2_n (by decide), up2_n (by decide), up2_n (by decide), up2_n (by decide), up2_n (by decide), up2_n (by decide), up2_n (by decide), up2_n (by decide)]
theorem pkM_1 {M : Nat → Nat → Int32} {p a : Nat} : pkM M p a 1 = M 1 := by
  unfold pkM pkI
  rw [up2_n (by decide), up2_n (by decide), up2_n (by decide), up2_n (by decide), up2_n (by decide), up2_n (by decide), up2_n (by decide), up2_n (by decide), up2_n (by decide), up2_n (by decide)]
theorem pkM_2 {M : Nat → Nat → Int32} {p a : Nat} : pkM M p a 2 = M 2 := by
  unfold pkM pkI
  rw [up2_n (by decide), up2_n (by decide), up2_n (by decide), up2_n (by decide), up2_n (by decide), up2_n (by decide), up2_n (by decide), up2_n (by decide), up2_n (by decide), up2_n (by decide)]
theorem pkM_3 {M : Nat → Nat → Int32} {p a : Nat} : pkM M p a 3 = M 3 := by
  unfold pkM pkI
  rw [up2_n (by decide), up2_n (by decide), up2_n (by decide), up2_n (by decide), up2_n (by decide), up2_n (by decide), up2_n (by decide), up2_n (by decide), up2_n (by decide), up2_n (by decide)]
theorem pkM_4 {M : Nat → Nat → Int32} {p a : Nat} : pkM M p a 4 = M 4 := by
  unfold pkM pkI
  rw [up2_n (by decide), up2_n (by decide), up2_n (by decide), up2_n (by decide), up2_n (by decide), up2_n (by decide), up2_n (by decide), up2_n (by decide), up2_n (by decide), up2_n (by decide)]
theorem pkM_5 {M : Nat → Nat → Int32} {p a : Nat} : pkM M p a 5 = M 5 := by
  unfold pkM pkI
  rw [up2_n (by decide), up2_n (by decide), up2_n (by decide), up2_n (by decide), up2_n (by decide), up2_n (by decide), up2_n (by decide), up2_n (by decide), up2_n (by decide), up2_n (by decide)]
theorem pkM_6 {M : Nat → Nat → Int32} {p a : Nat} : pkM M p a 6 = M 6 := by
  unfold pkM pkI
  rw [up2_n (by decide), up2_n (by decide), up2_n (by decide), up2_n (by decide), up2_n (by decide), up2_n (by decide), up2_n (by decide), up2_n (by decide), up2_n (by decide), up2_n (by decide)]
theorem pkM_7 {M : Nat → Nat → Int32} {p a : Nat} : pkM M p a 7 = M 7 := by
  unfold pkM pkI
  rw [up2_n (by decide), up2_n (by decide), up2_n (by decide), up2_n (by decide), up2_n (by decide), up2_n (by decide), up2_n (by decide), up2_n (by decide), up2_n (by decide), up2_n (by decide)]
theorem pkM_8 {M : Nat → Nat → Int32} {p a : Nat} : pkM M p a 8 = M 8 := by
  unfold pkM pkI
  rw [up2_n (by decide), up2_n (by decide), up2_n (by decide), up2_n (by decide), up2_n (by decide), up2_n (by decide), up2_n (by decide), up2_n (by decide), up2_n (by decide), up2_n (by decide)]
theorem pkM_9 {M : Nat → Nat → Int32} {p a : Nat} : pkM M p a 9 = M 9 := by
  unfold pkM pkI
  rw [up2_n (by decide), up2_n (by decide), up2_n (by decide), up2_n (by decide), up2_n (by decide), up2_n (by decide), up2_n (by decide), up2_n (by decide), up2_n (by decide), up2_n (by decide)]
theorem pkM_10 {M : Nat → Nat → Int32} {p a : Nat} : pkM M p a 10 = M 10 := by
  unfold pkM pkI
  rw [up2_n (by decide), up2_n (by decide), up2_n (by decide), up2_n (by decide), up2_n (by decide), up2_n (by decide), up2_n (by decide), up2_n (by decide), up2_n (by decide), up2_n (by decide)]
theorem pkM_11 {M : Nat → Nat → Int32} {p a : Nat} : pkM M p a 11 = M 11 := by
  unfold pkM pkI
  rw [up2_n (by decide), up2_n (by decide), up2_n (by decide), up2_n (by decide), up2_n (by decide), up2_n (by decide), up2_n (by decide), up2_n (by decide), up2_n (by decide), up2_n (by decide)]
theorem pkM_12 {M : Nat → Nat → Int32} {p a : Nat} : pkM M p a 12 = M 12 := by
  unfold pkM pkI
  rw [up2_n (by decide), up2_n (by decide), up2_n (by decide), up2_n (by decide), up2_n (by decide), up2_n (by decide), up2_n (by decide), up2_n (by decide), up2_n (by decide), up2_n (by decide)]
theorem pkM_13 {M : Nat → Nat → Int32} {p a : Nat} : pkM M p a 13 = M 13 := by
  unfold pkM pkI
  rw [up2_n (by decide), up2_n (by decide), up2_n (by decide), up2_n (by decide), up2_n (by decide), up2_n (by decide), up2_n (by decide), up2_n (by decide), up2_n (by decide), up2_n (by decide)]
theorem pkM_14 {M : Nat → Nat → Int32} {p a : Nat} : pkM M p a 14 = M 14 := by
  unfold pkM pkI
  rw [up2_n (by decide), up2_n (by decide), up2_n (by decide), up2_n (by decide), up2_n (by decide), up2_n (by decide), up2_n (by decide), up2_n (by decide), up2_n (by decide), up2_n (by decide)]
theorem pkM_15 {M : Nat → Nat → Int32} {p a : Nat} : pkM M p a 15 = M 15 := by
  unfold pkM pkI
  rw [up2_n (by decide), up2_n (by decide), up2_n (by decide), up2_n (by decide), up2_n (by decide), up2_n (by decide), up2_n (by decide), up2_n (by decide), up2_n (by decide), up2_n (by decide)]
theorem pkM_16 {M : Nat → Nat → Int32} {p a : Nat} : pkM M p a 16 = M 16 := by
  unfold pkM pkI
  rw [up2_n (by decide), up2_n (by decide), up2_n (by decide), up2_n (by decide), up2_n (by decide), up2_n (by decide), up2_n (by decide), up2_n (by decide), up2_n (by decide), up2_n (by decide)]
theorem pkM_17 {M : Nat → Nat → Int32} {p a : Nat} : pkM M p a 17 = M 17 := by
  unfold pkM pkI
  rw [up2_n (by decide), up2_n (by decide), up2_n (by decide), up2_n (by decide), up2_n (by decide), up2_n (by decide), up2_n (by decide), up2_n (by decide), up2_n (by decide), up2_n (by decide)]
theorem pkM_18 {M : Nat → Nat → Int32} {p a : Nat} : pkM M p a 18 = M 18 := by
  unfold pkM pkI
  rw [up2_n (by decide), up2_n (by decide), up2_n (by decide), up2_n (by decide), up2_n (by decide), up2_n (by decide), up2_n (by decide), up2_n (by decide), up2_n (by decide), up2_n (by decide)]
theorem pkM_20 {M : Nat → Nat → Int32} {p a : Nat} : pkM M p a 20 = M 20 := by
  unfold pkM pkI
  rw [up2_n (by decide), up2_n (by decide), up2_n (by decide), up2_n (by decide), up2_n (by decide), up2_n (by decide), up2_n (by decide), up2_n (by decide), up2_n (by decide), up2_n (by decide)]
theorem pkM_30 {M : Nat → Nat → Int32} {p a : Nat} : pkM M p a 30 = M 30 := by
  unfold pkM pkI
  rw [up2_n (by decide), up2_n (by decide), up2_n (by decide), up2_n (by decide), up2_n (by decide), up2_n (by decide), up2_n (by decide), up2_n (by decide), up2_n (by decide), up2_n (by decide)]
theorem pkM_31 {M : Nat → Nat → Int32} {p a : Nat} : pkM M p a 31 = M 31 := by
  unfold pkM pkI
  rw [up2_n (by decide), up2_n (by decide), up2_n (by decide), up2_n (by decide), up2_n (by decide), up2_n (by decide), up2_n (by decide), up2_n (by decide), up2_n (by decide), up2_n (by decide)]
theorem pkM_32 {M : Nat → Nat → Int32} {p a : Nat} : pkM M p a 32 = M 32 := by
  unfold pkM pkI
  rw [up2_n (by decide), up2_n (by decide), up2_n (by decide), up2_n (by decide), up2_n (by decide), up2_n (by decide), up2_n (by decide), up2_n (by decide), up2_n (by decide), up2_n (by decide)]
theorem pkM_33 {M : Nat → Nat → Int32} {p a : Nat} : pkM M p a 33 = M 33 := by
  unfold pkM pkI
  rw [up2_n (by decide), up2_n (by decide), up2_n (by decide), up2_n (by decide), up2_n (by decide), up2_n (by decide), up2_n (by decide), up2_n (by decide), up2_n (by decide), up2_n (by decide)]
theorem pkM_34 {M : Nat → Nat → Int32} {p a : Nat} : pkM M p a 34 = M 34 := by
  unfold pkM pkI
  rw [up2_n (by decide), up2_n (by decide), up2_n (by decide), up2_n (by decide), up2_n (by decide), up2_n (by decide), up2_n (by decide), up2_n (by decide), up2_n (by decide), up2_n (by decide)]
theorem pkM_35 {M : Nat → Nat → Int32} {p a : Nat} : pkM M p a 35 = M 35 := by
  unfold pkM pkI
  rw [up2_n (by decide), up2_n (by decide), up2_n (by decide), up2_n (by decide), up2_n (by decide), up2_n (by decide), up2_n (by decide), up2_n (by decide), up2_n (by decide), up2_n (by decide)]
theorem pkM_36 {M : Nat → Nat → Int32} {p a : Nat} : pkM M p a 36 = M 36 := by
  unfold pkM pkI
  rw [up2_n (by decide), up2_n (by decide), up2_n (by decide), up2_n (by decide), up2_n (by decide), up2_n (by decide), up2_n (by decide), up2_n (by decide), up2_n (by decide), up2_n (by decide)]
section C32
variable {te : Nat} {S S' : CS} {a v : Nat → Nat} {w : Nat → Nat → Nat} {E Q W P O : Nat} {M N : Nat → Nat → Int32} {T : Int64}
theorem cHs.c (c : cHs a S M T) (h35 : N 35 = M 35) (h36 : N 36 = M 36) (h14 : N 14 = M 14) : cHs a S N T := by
  unfold cHs; rw [h35, h36, h14]; exact c
theorem cLn.c (c : cLn a w S M) (h : N 10 = M 10) : cLn a w S N := by
  unfold cLn eN; rw [h]; exact c
theorem cEg.c (c : cEg w E S M) (h1 : N 1 = M 1) (h2 : N 2 = M 2) (h3 : N 3 = M 3) (h4 : N 4 = M 4) (h5 : N 5 = M 5) (h6 : N 6 = M 6) (h7 : N 7 = M 7) : cEg w E S N := by
  unfold cEg; rw [h1, h2, h3, h4, h5, h6, h7]; exact c
theorem cOd.c (c : cOd w O S M) (h1 : N 31 = M 31) (h2 : N 32 = M 32) (h3 : N 33 = M 33) (h4 : N 34 = M 34) : cOd w O S N := by
  unfold cOd; rw [h1, h2, h3, h4]; exact c
theorem cBb.c (c : cBb a S M) (h : N 15 = M 15) : cBb a S N := by
  unfold cBb; rw [h]; exact c
theorem layS_o {y x f b : Nat} (h : b ≠ y) : (layS S y x).2.2.2.1 f b = S.2.2.2.1 f b := by
  unfold layS
  show up2 (up2 (up2 (up2 (up2 (up2 S.2.2.2.1 23 y _) 24 y _) 21 y _) 22 y _) 25 y _) 26 y _ f b = _
  rw [up2_o h, up2_o h, up2_o h, up2_o h, up2_o h, up2_o h]
theorem layS_21 {y x : Nat} : (layS S y x).2.2.2.1 21 y = S.2.2.2.1 21 y + 1 := by
  simp only [layS, uI]
  rw [up2_n (by decide), up2_n (by decide), up2_n (by decide), up2_e]
theorem layS_22 {y x : Nat} : (layS S y x).2.2.2.1 22 y = S.2.2.2.1 22 y ||| (1 <<< (S.2.2.2.1 1 x &&& 31)) := by
  simp only [layS, uI]
  rw [up2_n (by decide), up2_n (by decide), up2_e]
theorem layS_23 {y x : Nat} : (layS S y x).2.2.2.1 23 y = if S.2.2.2.1 21 y = 0 then S.2.2.2.1 7 x else if S.2.2.2.1 7 x < S.2.2.2.1 23 y then S.2.2.2.1 7 x else S.2.2.2.1 23 y := by
  simp only [layS, uI]
  rw [up2_n (by decide), up2_n (by decide), up2_n (by decide), up2_n (by decide), up2_n (by decide), up2_e]
theorem layS_24 {y x : Nat} : (layS S y x).2.2.2.1 24 y = if S.2.2.2.1 24 y < S.2.2.2.1 7 x then S.2.2.2.1 7 x else S.2.2.2.1 24 y := by
  simp only [layS, uI]
  rw [up2_n (by decide), up2_n (by decide), up2_n (by decide), up2_n (by decide), up2_e]
theorem layS_25 {y x : Nat} : (layS S y x).2.2.2.1 25 y = S.2.2.2.1 25 y + S.2.2.2.1 2 x := by
  simp only [layS, uI]
  rw [up2_n (by decide), up2_e]
theorem layS_26 {y x : Nat} : (layS S y x).2.2.2.1 26 y = S.2.2.2.1 26 y + S.2.2.2.1 6 x := by
  simp only [layS, uI]
  rw [up2_e]
theorem CI.lay (c : CI te a v w E Q W P O S M T) (ok : OKM M E) (hE : E ≤ 600) {p e t : Nat} (hp : p < 4) (he : e < E) (ht : M 19 p = nI t) (ht5 : t ≤ 5) (h7 : 0 ≤ M 7 e) : CI te a v w E Q W P O (layS S (w 2 p) (w 0 e)) (up2 (up2 M 20 (6 * p + t) (nI e)) 19 p (M 19 p + 1)) T := by
  obtain ⟨c1, c2, c3, c4, c5, c6, c7, c8, c9, c10, c11, c12, c13⟩ := c
  have hct : (M 19 p).toNatClampNeg = t := by rw [ht]; exact nI_clamp (by omega)
  have hN : ∀ q, q < 4 → ∀ k, k < (M 19 q).toNatClampNeg → upd (M 20) (6 * p + t) (nI e) (6 * q + k) = M 20 (6 * q + k) := fun q hq k hk => by
    obtain ⟨t2, a1, a2, -⟩ := ok.2.2.2.1 q hq
    have hk2 : k < t2 := by rw [a2, nI_clamp (by omega)] at hk; exact hk
    by_cases hqp : q = p
    · subst hqp
      rw [hct] at hk
      exact upd_o (by omega)
    · exact upd_o (by omega)
  refine ⟨c1, c2, c3, c4, c5, c6, c7, fun q hq => ?_, fun i hi => ?_, c10, c11, c12, c13⟩
  · by_cases hqp : q = p
    · subst hqp
      obtain ⟨d1, d2, d3, d4, d5, d6, d7, d8⟩ := c8 q hq
      obtain ⟨e0, eb, ew, -, -, -, e6, e7⟩ := (c10 e he).2
      rw [hct] at d2 d3 d4 d5 d6
      obtain ⟨g1, g2, g3, g4⟩ := tr_g (M := M) (N := up2 (up2 M 20 (6 * q + t) (nI e)) 19 q (M 19 q + 1)) (p := q) (t := t) (fun k hk => ⟨hN q hq k (by rw [hct]; exact hk), rfl, rfl, rfl, rfl⟩) t (Nat.le_refl _)
      have hEt : trE (up2 (up2 M 20 (6 * q + t) (nI e)) 19 q (M 19 q + 1)) q t = e := by
        show (upd (M 20) (6 * q + t) (nI e) (6 * q + t)).toNatClampNeg = e
        unfold upd
        rw [if_pos rfl, nI_clamp (by omega)]
      have h19 : up2 (up2 M 20 (6 * q + t) (nI e)) 19 q (M 19 q + 1) 19 q = nI (t + 1) := by
        show upd (M 19) q (M 19 q + 1) q = _
        unfold upd
        rw [if_pos rfl, ht, nI_1]
      have hb : btsN (up2 (up2 M 20 (6 * q + t) (nI e)) 19 q (M 19 q + 1)) q (t + 1) = btsN M q t ||| (1 <<< (M 1 e &&& 31)) := by
        show btsN _ q t ||| (1 <<< (M 1 (trE (up2 (up2 M 20 (6 * q + t) (nI e)) 19 q (M 19 q + 1)) q t) &&& 31)) = _
        rw [g1, hEt]
      have hw : trW (up2 (up2 M 20 (6 * q + t) (nI e)) 19 q (M 19 q + 1)) q (t + 1) = trW M q t + M 2 e := by
        show trW _ q t + M 2 (trE (up2 (up2 M 20 (6 * q + t) (nI e)) 19 q (M 19 q + 1)) q t) = _
        rw [g2, hEt]
      have hT : trT (up2 (up2 M 20 (6 * q + t) (nI e)) 19 q (M 19 q + 1)) q (t + 1) = trT M q t + M 6 e := by
        show trT _ q t + M 6 (trE (up2 (up2 M 20 (6 * q + t) (nI e)) 19 q (M 19 q + 1)) q t) = _
        rw [g3, hEt]
      have hF : trF (up2 (up2 M 20 (6 * q + t) (nI e)) 19 q (M 19 q + 1)) q (t + 1) = if t = 0 then M 7 e else if trF M q t ≤ M 7 e then trF M q t else M 7 e := by
        show (if trF _ q t ≤ M 7 (trE (up2 (up2 M 20 (6 * q + t) (nI e)) 19 q (M 19 q + 1)) q t) then trF _ q t else M 7 (trE (up2 (up2 M 20 (6 * q + t) (nI e)) 19 q (M 19 q + 1)) q t)) = _
        rw [hEt]
        by_cases h0 : t = 0
        · rw [if_pos h0]
          have : trF (up2 (up2 M 20 (6 * q + t) (nI e)) 19 q (M 19 q + 1)) q t = M 7 e := by
            have z : trF (up2 (up2 M 20 (6 * q + t) (nI e)) 19 q (M 19 q + 1)) q 0 = M 7 (trE (up2 (up2 M 20 (6 * q + t) (nI e)) 19 q (M 19 q + 1)) q 0) := rfl
            rw [show trE (up2 (up2 M 20 (6 * q + t) (nI e)) 19 q (M 19 q + 1)) q 0 = e by rw [← h0]; rw [h0] at hEt ⊢; exact hEt] at z
            rw [h0] at z ⊢; exact z
          rw [this, ite_self]
        · rw [if_neg h0, (g4 (by omega)).1]
      have hL : trL (up2 (up2 M 20 (6 * q + t) (nI e)) 19 q (M 19 q + 1)) q (t + 1) = if t = 0 then M 7 e else if M 7 e ≤ trL M q t then trL M q t else M 7 e := by
        show (if M 7 (trE (up2 (up2 M 20 (6 * q + t) (nI e)) 19 q (M 19 q + 1)) q t) ≤ trL _ q t then trL _ q t else M 7 (trE (up2 (up2 M 20 (6 * q + t) (nI e)) 19 q (M 19 q + 1)) q t)) = _
        rw [hEt]
        by_cases h0 : t = 0
        · rw [if_pos h0]
          have : trL (up2 (up2 M 20 (6 * q + t) (nI e)) 19 q (M 19 q + 1)) q t = M 7 e := by
            have z : trL (up2 (up2 M 20 (6 * q + t) (nI e)) 19 q (M 19 q + 1)) q 0 = M 7 (trE (up2 (up2 M 20 (6 * q + t) (nI e)) 19 q (M 19 q + 1)) q 0) := rfl
            rw [show trE (up2 (up2 M 20 (6 * q + t) (nI e)) 19 q (M 19 q + 1)) q 0 = e by rw [← h0]; rw [h0] at hEt ⊢; exact hEt] at z
            rw [h0] at z ⊢; exact z
          rw [this, ite_self]
        · rw [if_neg h0, (g4 (by omega)).2]
      rw [h19, nI_clamp (by omega), hb, hw, hT, hF, hL]
      have x21 : S.2.2.2.1 21 (w 2 q) = nI t := d1.trans ht
      have x0 : (nI t = 0) = (t = 0) := propext ⟨fun z => (nI_eq (b := 0) (by omega) (by omega)).mp z, fun z => by rw [z]; rfl⟩
      refine ⟨?_, ?_, fun _ => ⟨?_, ?_⟩, fun z => absurd z (by omega), ?_, ?_, ?_, ?_⟩
      · rw [layS_21, x21, nI_1]
      · rw [layS_22, d2, eb]
      · rw [layS_23, x21, e7]
        simp only [x0]
        by_cases h0 : t = 0
        · rw [if_pos h0, if_pos h0]
        · rw [if_neg h0, if_neg h0, (d3 (by omega)).1]
          by_cases hl : trF M q t ≤ M 7 e
          · rw [if_pos hl, if_neg (Int32.not_lt.mpr hl)]
          · rw [if_neg hl, if_pos (Int32.not_le.mp hl)]
      · rw [layS_24, e7]
        by_cases h0 : t = 0
        · rw [if_pos h0, d4 h0]
          by_cases hl : (0 : Int32) < M 7 e
          · rw [if_pos hl]
          · rw [if_neg hl]
            exact Int32.le_antisymm h7 (Int32.not_lt.mp hl)
        · rw [if_neg h0, (d3 (by omega)).2]
          by_cases hl : M 7 e ≤ trL M q t
          · rw [if_pos hl, if_neg (Int32.not_lt.mpr hl)]
          · rw [if_neg hl, if_pos (Int32.not_le.mp hl)]
      · rw [layS_25, d5, ew]
      · rw [layS_26, d6, e6]
      · exact d7
      · exact d8
    · have hne : w 2 q ≠ w 2 p := fun z => hqp (c13.2.2.2.2.1 q p hq hp z)
      rw [layS_o hne, layS_o hne, layS_o hne, layS_o hne, layS_o hne, layS_o hne, layS_o hne, layS_o hne]
      obtain ⟨g1, g2, g3, g4⟩ := tr_g (M := M) (N := up2 (up2 M 20 (6 * p + t) (nI e)) 19 p (M 19 p + 1)) (p := q) (t := (M 19 q).toNatClampNeg) (fun k hk => ⟨hN q hq k hk, rfl, rfl, rfl, rfl⟩) _ (Nat.le_refl _)
      rw [show up2 (up2 M 20 (6 * p + t) (nI e)) 19 p (M 19 p + 1) 19 q = M 19 q from upd_o (f := M 19) hqp, g1, g2, g3]
      obtain ⟨d1, d2, d3, d4, d5, d6, d7, d8⟩ := c8 q hq
      exact ⟨d1, d2, fun h0 => by rw [(g4 h0).1, (g4 h0).2]; exact d3 h0, d4, d5, d6, d7, d8⟩
  · have hne : w 1 i ≠ w 2 p := c13.2.2.2.2.2.1 i p hi hp
    rw [layS_o hne, layS_o hne, layS_o hne, layS_o hne, layS_o hne, layS_o hne, layS_o hne, layS_o hne]
    exact c9 i hi
end C32

