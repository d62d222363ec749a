/-! a tick of the model, pure: its steps, and that they keep the numbers in their ranges -/
def whN (M : Nat → Nat → Int32) (e : Nat) : Int32 := if dullN (M 3 e) ≤ 1 then if M 4 e ≤ 4 then if M 5 e ≤ 1 then 0 else 1 else 2 else 3
def whT (M : Nat → Nat → Int32) (e : Nat) (T : Int64) : Int64 := if dullN (M 3 e) ≤ 1 then if M 4 e ≤ 4 then if M 5 e ≤ 1 then T + 1000 + 100 + 10 + 1 else T + 1000 + 100 + 10 else T + 1000 + 100 else T + 1000
def eN (M : Nat → Nat → Int32) (k : Nat) : Nat := (M 10 k - 1).toNatClampNeg
def bN (M : Nat → Nat → Int32) (e : Nat) : Nat := (M 1 e).toNatClampNeg
def in15 (M : Nat → Nat → Int32) (x : Nat) : Nat → Nat → Int32 := up2 M 15 x (M 15 x + 1)
def s1M (M : Nat → Nat → Int32) : Nat → Nat → Int32 := if M 10 15 - 1 < 0 then M else in15 M (8 + bN M (eN M 15))
def mvL (f : Nat → Int32) (d : Nat) : Nat → Int32 := fun i => if 15 - d < i ∧ i ≤ 15 then f (i - 1) else f i
def s2M (M : Nat → Nat → Int32) : Nat → Nat → Int32 := fun g => if g = 10 then upd (mvL (M 10) 15) 0 0 else M g
def s3M (M : Nat → Nat → Int32) : Nat → Nat → Int32 := if M 10 2 - 1 < 0 then M else up2 (up2 M 6 (eN M 2) (M 2 (eN M 2) + M 36 0)) 7 (eN M 2) (M 35 0)
def lkW (M : Nat → Nat → Int32) (e : Nat) : Nat → Nat → Int32 := up2 (up2 (up2 (up2 (up2 M 12 (M 11 0).toNatClampNeg (nI e)) 13 (M 11 0).toNatClampNeg (M 35 0 + 8)) 11 0 (M 11 0 + 1)) 14 0 (M 14 0 + 1)) 5 e 0
def lk2 (M : Nat → Nat → Int32) (e : Nat) : Nat → Nat → Int32 := if whN M e = 0 then M else if whN M e = 1 then if 30 ≤ M 11 0 then in15 (up2 M 10 5 0) (0 + bN M e) else lkW (up2 M 10 5 0) e else in15 (up2 M 10 5 0) ((if whN M e = 3 then 4 else 0) + bN M e)
def lkM (M : Nat → Nat → Int32) : Nat → Nat → Int32 := if 0 ≤ M 10 5 - 1 then lk2 M (eN M 5) else M
def lkT (M : Nat → Nat → Int32) (T : Int64) : Int64 := if 0 ≤ M 10 5 - 1 then whT M (eN M 5) T else T
/-- what a tray of k eggs holds: first and last tick, weights, what the scale told -/
def trE (M : Nat → Nat → Int32) (p k : Nat) : Nat := (M 20 (6 * p + k)).toNatClampNeg
def trF (M : Nat → Nat → Int32) (p : Nat) : Nat → Int32
  | 0 => M 7 (trE M p 0)
  | k + 1 => if trF M p k ≤ M 7 (trE M p k) then trF M p k else M 7 (trE M p k)
def trL (M : Nat → Nat → Int32) (p : Nat) : Nat → Int32
  | 0 => M 7 (trE M p 0)
  | k + 1 => if M 7 (trE M p k) ≤ trL M p k then trL M p k else M 7 (trE M p k)
def trW (M : Nat → Nat → Int32) (p : Nat) : Nat → Int32
  | 0 => 0
  | k + 1 => trW M p k + M 2 (trE M p k)
def trT (M : Nat → Nat → Int32) (p : Nat) : Nat → Int32
  | 0 => 0
  | k + 1 => trT M p k + M 6 (trE M p k)
def pkI (M : Nat → Nat → Int32) (p a k : Nat) : Nat → Nat → Int32 := up2 (up2 (up2 (up2 (up2 (up2 M 22 a (M 16 p)) 23 a (btsN M p k)) 24 a (trF M p k)) 25 a (trL M p k)) 26 a (trW M p k)) 27 a (trT M p k)
def pkM (M : Nat → Nat → Int32) (p a : Nat) : Nat → Nat → Int32 := up2 (up2 (up2 (up2 (pkI M p a 6) 28 a (-9)) 29 a 0) 19 p 0) 21 0 (M 21 0 + 1)
def tk1 (M : Nat → Nat → Int32) (p e : Nat) : Nat → Nat → Int32 := in15 (up2 (up2 (up2 (up2 M 10 (8 + 2 * p) 0) 20 (6 * p + (M 19 p).toNatClampNeg) (nI e)) 19 p (M 19 p + 1)) 18 p 2) (12 + bN M e)
def tk2 (M : Nat → Nat → Int32) (p e : Nat) : Nat → Nat → Int32 := if M 19 p + 1 = 6 then pkM (tk1 M p e) p (M 21 0).toNatClampNeg else tk1 M p e
def tkM (M : Nat → Nat → Int32) (p : Nat) : Nat → Nat → Int32 := if M 18 p ≤ 0 then if M 10 (8 + 2 * p) - 1 < 0 then M else if M 17 p = 0 then if gradeN (M 6 (eN M (8 + 2 * p))) = M 16 p then if M 19 p = 5 then if M 21 0 = 60 then M else tk2 M p (eN M (8 + 2 * p)) else tk2 M p (eN M (8 + 2 * p)) else M else M else up2 M 18 p (M 18 p - 1)
def shf (f : Nat → Int32) (n : Nat) : Nat → Int32 := fun k => if k < n then f (k + 1) else f k
def drQ (M : Nat → Nat → Int32) : Nat → Nat → Int32 := up2 (up2 (up2 M 9 (M 8 0).toNatClampNeg (M 12 0)) 8 0 (M 8 0 + 1)) 11 0 (M 11 0 - 1)
def drS (M : Nat → Nat → Int32) (n : Nat) : Nat → Nat → Int32 := fun g => if g = 12 then shf (M 12) n else if g = 13 then shf (M 13) n else M g
def dr1 (M : Nat → Nat → Int32) : Nat → Nat → Int32 := drS (drQ M) ((M 11 0).toNatClampNeg - 1)
def drN : Nat → (Nat → Nat → Int32) → (Nat → Nat → Int32)
  | 0, M => M
  | n + 1, M => if M 11 0 ≤ 0 then M else if M 35 0 < M 13 0 then M else if 20 ≤ M 8 0 then M else drN n (dr1 M)
def fdS (M : Nat → Nat → Int32) (n : Nat) : Nat → Nat → Int32 := fun g => if g = 9 then shf (M 9) n else M g
def fdM (M : Nat → Nat → Int32) : Nat → Nat → Int32 := if M 8 0 ≤ 0 then M else fdS (up2 (up2 M 10 0 (M 9 0 + 1)) 8 0 (M 8 0 - 1)) ((M 8 0).toNatClampNeg - 1)
def tk4 (M : Nat → Nat → Int32) : Nat → (Nat → Nat → Int32)
  | 0 => M
  | p + 1 => tkM (tk4 M p) p
def tkA (M : Nat → Nat → Int32) : Nat → Nat → Int32 := s3M (s2M (s1M M))
def tkB (M : Nat → Nat → Int32) : Nat → Nat → Int32 := fdM (drN 30 (tk4 (lkM (tkA M)) 4))
def otM (M : Nat → Nat → Int32) : Nat → Nat → Int32 := up2 (tkB M) 35 0 (tkB M 35 0 + 1)
def otT (M : Nat → Nat → Int32) (T : Int64) : Int64 := lkT (tkA M) T
/-! the ranges -/
def QuOK (M : Nat → Nat → Int32) (E : Nat) : Prop := ∃ Q : Nat, Q ≤ 20 ∧ M 8 0 = nI Q ∧ ∀ k, k < Q → ∃ e : Nat, e < E ∧ M 9 k = nI e
def WaOK (M : Nat → Nat → Int32) (E : Nat) : Prop := ∃ W : Nat, W ≤ 30 ∧ M 11 0 = nI W ∧ ∀ k, k < W → ∃ e : Nat, e < E ∧ M 12 k = nI e
def Tr5 (M : Nat → Nat → Int32) (E : Nat) : Prop := ∀ p, p < 4 → ∃ t : Nat, t ≤ 5 ∧ M 19 p = nI t ∧ ∀ k, k < t → ∃ e : Nat, e < E ∧ M 20 (6 * p + k) = nI e
def PaOK (M : Nat → Nat → Int32) : Prop := ∃ P : Nat, P ≤ 60 ∧ M 21 0 = nI P
def BrOK (M : Nat → Nat → Int32) (E : Nat) : Prop := ∀ e, e < E → ∃ b : Nat, b < 4 ∧ M 1 e = nI b
def OKM (M : Nat → Nat → Int32) (E : Nat) : Prop := QuOK M E ∧ LiOK M E ∧ WaOK M E ∧ Tr5 M E ∧ PaOK M ∧ BrOK M E
theorem QuOK.c {M N : Nat → Nat → Int32} {E : Nat} (h : QuOK M E) (h8 : N 8 = M 8) (h9 : N 9 = M 9) : QuOK N E := by
  unfold QuOK; rw [h8, h9]; exact h
theorem LiOK.c {M N : Nat → Nat → Int32} {E : Nat} (h : LiOK M E) (h8 : N 10 = M 10) : LiOK N E := by
  unfold LiOK; rw [h8]; exact h
theorem WaOK.c {M N : Nat → Nat → Int32} {E : Nat} (h : WaOK M E) (h8 : N 11 = M 11) (h9 : N 12 = M 12) : WaOK N E := by
  unfold WaOK; rw [h8, h9]; exact h
theorem Tr5.c {M N : Nat → Nat → Int32} {E : Nat} (h : Tr5 M E) (h8 : N 19 = M 19) (h9 : N 20 = M 20) : Tr5 N E := by
  unfold Tr5; rw [h8, h9]; exact h
theorem PaOK.c {M N : Nat → Nat → Int32} (h : PaOK M) (h8 : N 21 = M 21) : PaOK N := by
  unfold PaOK; rw [h8]; exact h
theorem BrOK.c {M N : Nat → Nat → Int32} {E : Nat} (h : BrOK M E) (h8 : N 1 = M 1) : BrOK N E := by
  unfold BrOK; rw [h8]; exact h
theorem LiOK.z {M : Nat → Nat → Int32} {E k : Nat} (h : LiOK M E) : LiOK (up2 M 10 k 0) E := by
  intro i hi
  show ∃ v : Nat, v ≤ E ∧ upd (M 10) k 0 i = nI v
  unfold upd
  by_cases e : i = k
  · rw [if_pos e]; exact ⟨0, Nat.zero_le _, rfl⟩
  · rw [if_neg e]; exact h i hi
theorem OKM.s1 {M : Nat → Nat → Int32} {E : Nat} (h : OKM M E) : OKM (s1M M) E := by
  unfold s1M
  split
  · exact h
  · exact ⟨h.1.c rfl rfl, h.2.1.c rfl, h.2.2.1.c rfl rfl, h.2.2.2.1.c rfl rfl, h.2.2.2.2.1.c rfl, h.2.2.2.2.2.c rfl⟩
theorem OKM.s2 {M : Nat → Nat → Int32} {E : Nat} (h : OKM M E) : OKM (s2M M) E := by
  refine ⟨h.1.c rfl rfl, ?_, h.2.2.1.c rfl rfl, h.2.2.2.1.c rfl rfl, h.2.2.2.2.1.c rfl, h.2.2.2.2.2.c rfl⟩
  intro i hi
  show ∃ v : Nat, v ≤ E ∧ upd (mvL (M 10) 15) 0 0 i = nI v
  unfold upd mvL
  by_cases e : i = 0
  · rw [if_pos e]; exact ⟨0, Nat.zero_le _, rfl⟩
  · rw [if_neg e, if_pos (by omega)]
    exact h.2.1 (i - 1) (by omega)
theorem OKM.s3 {M : Nat → Nat → Int32} {E : Nat} (h : OKM M E) : OKM (s3M M) E := by
  unfold s3M
  split
  · exact h
  · exact ⟨h.1.c rfl rfl, h.2.1.c rfl, h.2.2.1.c rfl rfl, h.2.2.2.1.c rfl rfl, h.2.2.2.2.1.c rfl, h.2.2.2.2.2.c rfl⟩
theorem OKM.in15 {M : Nat → Nat → Int32} {E x : Nat} (h : OKM M E) : OKM (in15 M x) E := ⟨h.1.c rfl rfl, h.2.1.c rfl, h.2.2.1.c rfl rfl, h.2.2.2.1.c rfl rfl, h.2.2.2.2.1.c rfl, h.2.2.2.2.2.c rfl⟩
theorem OKM.z {M : Nat → Nat → Int32} {E k : Nat} (h : OKM M E) : OKM (up2 M 10 k 0) E := ⟨h.1.c rfl rfl, h.2.1.z, h.2.2.1.c rfl rfl, h.2.2.2.1.c rfl rfl, h.2.2.2.2.1.c rfl, h.2.2.2.2.2.c rfl⟩
theorem OKM.egg {M : Nat → Nat → Int32} {E k : Nat} (h : OKM M E) (hE : E ≤ 600) (hk : k < 16) (h0 : ¬ M 10 k - 1 < 0) : eN M k < E ∧ M 10 k - 1 = nI (eN M k) := by
  obtain ⟨v, hv, e⟩ := h.2.1 k hk
  have hv0 : 0 < v := (nI_prn e (by omega)).mp (Int32.not_lt.mp h0)
  unfold eN
  rw [nI_pr e hv0, nI_clamp (by omega)]
  exact ⟨by omega, rfl⟩
theorem OKM.lkW {M : Nat → Nat → Int32} {E e : Nat} (h : OKM M E) (he : e < E) (h0 : ¬ 30 ≤ M 11 0) : OKM (lkW M e) E := by
  refine ⟨h.1.c rfl rfl, h.2.1.c rfl, ?_, h.2.2.2.1.c rfl rfl, h.2.2.2.2.1.c rfl, h.2.2.2.2.2.c rfl⟩
  obtain ⟨W, hW, e1, hw⟩ := h.2.2.1
  have hlt : W < 30 := Nat.lt_of_not_le (fun q => h0 (by rw [e1]; exact nI_le (a := 30) q (by omega)))
  refine ⟨W + 1, by omega, ?_, fun k hk => ?_⟩
  · show upd (M 11) 0 (M 11 0 + 1) 0 = nI (W + 1)
    unfold upd
    rw [if_pos rfl, e1, nI_1]
  · show ∃ e9 : Nat, e9 < E ∧ upd (M 12) (M 11 0).toNatClampNeg (nI e) k = nI e9
    rw [e1, nI_clamp (by omega)]
    unfold upd
    by_cases q : k = W
    · rw [if_pos q]; exact ⟨e, he, rfl⟩
    · rw [if_neg q]; exact hw k (by omega)
theorem OKM.lk {M : Nat → Nat → Int32} {E : Nat} (h : OKM M E) (hE : E ≤ 600) : OKM (lkM M) E := by
  unfold lkM
  split
  · rename_i h0
    have he := (h.egg hE (k := 5) (by decide) (Int32.not_lt.mpr h0)).1
    unfold lk2
    split
    · exact h
    · split
      · split
        · exact h.z.in15
        · rename_i h3
          exact h.z.lkW he h3
      · exact h.z.in15
  · exact h
theorem OKM.pk {M : Nat → Nat → Int32} {E p a : Nat} (hp : p < 4) (hq : QuOK M E) (hl : LiOK M E) (hw : WaOK M E) (ht : ∀ q, q < 4 → q ≠ p → ∃ t : Nat, t ≤ 5 ∧ M 19 q = nI t ∧ ∀ k, k < t → ∃ e : Nat, e < E ∧ M 20 (6 * q + k) = nI e) (hP : ∃ P : Nat, P < 60 ∧ M 21 0 = nI P) (hb : BrOK M E) : OKM (pkM M p a) E := by
  refine ⟨hq.c rfl rfl, hl.c rfl, hw.c rfl rfl, fun q hq9 => ?_, ?_, hb.c rfl⟩
  · by_cases e : q = p
    · refine ⟨0, by omega, ?_, fun k hk => by omega⟩
      show upd (M 19) p 0 q = nI 0
      unfold upd
      rw [if_pos e]; rfl
    · obtain ⟨t, h1, h2, h3⟩ := ht q hq9 e
      refine ⟨t, h1, ?_, h3⟩
      show upd (M 19) p 0 q = nI t
      unfold upd
      rw [if_neg e]; exact h2
  · obtain ⟨P, h1, h2⟩ := hP
    refine ⟨P + 1, by omega, ?_⟩
    show upd (M 21) 0 (M 21 0 + 1) 0 = _
    unfold upd
    rw [if_pos rfl, h2, nI_1]
theorem OKM.tk {M : Nat → Nat → Int32} {E p : Nat} (h : OKM M E) (hE : E ≤ 600) (hp : p < 4) : OKM (tkM M p) E := by
  have key : ∀ e, e < E → ¬ (M 19 p = 5 ∧ M 21 0 = 60) → OKM (tk2 M p e) E := fun e he hno => by
    obtain ⟨t, ht5, ht, hk⟩ := h.2.2.2.1 p hp
    have h19 : ∀ q, (tk1 M p e) 19 q = if q = p then M 19 p + 1 else M 19 q := fun q => rfl
    have h20 : ∀ q, (tk1 M p e) 20 q = if q = 6 * p + (M 19 p).toNatClampNeg then nI e else M 20 q := fun q => rfl
    have hct : (M 19 p).toNatClampNeg = t := by rw [ht]; exact nI_clamp (by omega)
    have hoth : ∀ q, q < 4 → q ≠ p → ∃ t : Nat, t ≤ 5 ∧ (tk1 M p e) 19 q = nI t ∧ ∀ k, k < t → ∃ e9 : Nat, e9 < E ∧ (tk1 M p e) 20 (6 * q + k) = nI e9 := fun q hq9 hne => by
      obtain ⟨t2, a1, a2, a3⟩ := h.2.2.2.1 q hq9
      refine ⟨t2, a1, by rw [h19, if_neg hne]; exact a2, fun k hk9 => ?_⟩
      rw [h20, if_neg (by rw [hct]; omega)]
      exact a3 k hk9
    have hLi : LiOK (tk1 M p e) E := (h.2.1.z (k := 8 + 2 * p)).c rfl
    unfold tk2
    split
    · rename_i h6
      have ht5' : M 19 p = 5 := by
        rw [ht, nI_1] at h6
        have := (nI_eq (by omega) (by decide)).mp (show nI (t + 1) = nI 6 from h6)
        rw [ht, show t = 5 by omega]; rfl
      obtain ⟨P, hP6, hP⟩ := h.2.2.2.2.1
      exact OKM.pk hp (h.1.c rfl rfl) hLi (h.2.2.1.c rfl rfl) hoth ⟨P, Nat.lt_of_le_of_ne hP6 (fun q => hno ⟨ht5', by rw [hP, q]; rfl⟩), hP⟩ (h.2.2.2.2.2.c rfl)
    · rename_i h6
      refine ⟨h.1.c rfl rfl, hLi, h.2.2.1.c rfl rfl, fun q hq9 => ?_, h.2.2.2.2.1.c rfl, h.2.2.2.2.2.c rfl⟩
      by_cases hqp : q = p
      · subst hqp
        have ht4 : t < 5 := Nat.lt_of_le_of_ne ht5 (fun z => h6 (by rw [ht, z]; rfl))
        refine ⟨t + 1, by omega, by rw [h19, if_pos rfl, ht, nI_1], fun k hk9 => ?_⟩
        rw [h20, hct]
        by_cases hkt : k = t
        · rw [if_pos (by rw [hkt])]; exact ⟨e, he, rfl⟩
        · rw [if_neg (by omega)]; exact hk k (by omega)
      · exact hoth q hq9 hqp
  unfold tkM
  split
  · split
    · exact h
    · rename_i h0
      have he := (h.egg hE (k := 8 + 2 * p) (by omega) h0).1
      split
      · split
        · split
          · split
            · exact h
            · rename_i h5 h60
              exact key _ he (fun q => h60 q.2)
          · rename_i h5
            exact key _ he (fun q => h5 q.1)
        · exact h
      · exact h
  · exact ⟨h.1.c rfl rfl, h.2.1.c rfl, h.2.2.1.c rfl rfl, h.2.2.2.1.c rfl rfl, h.2.2.2.2.1.c rfl, h.2.2.2.2.2.c rfl⟩
theorem OKM.tk4 {M : Nat → Nat → Int32} {E : Nat} (h : OKM M E) (hE : E ≤ 600) : ∀ p, p ≤ 4 → OKM (tk4 M p) E
  | 0, _ => h
  | p + 1, hp => (OKM.tk4 h hE p (by omega)).tk hE (by omega)
theorem OKM.d1 {M : Nat → Nat → Int32} {E : Nat} (h : OKM M E) (h0 : ¬ M 11 0 ≤ 0) (h2 : ¬ 20 ≤ M 8 0) : OKM (dr1 M) E := by
  obtain ⟨Q, hQ, eQ, hq⟩ := h.1
  obtain ⟨W, hW, eW, hw⟩ := h.2.2.1
  have hQ2 : Q < 20 := Nat.lt_of_not_le (fun q => h2 (by rw [eQ]; exact nI_le (a := 20) q (by omega)))
  have hW0 : 0 < W := Nat.pos_of_ne_zero (fun q => h0 (by rw [eW, q]; decide))
  refine ⟨?_, h.2.1.c rfl, ?_, h.2.2.2.1.c rfl rfl, h.2.2.2.2.1.c rfl, h.2.2.2.2.2.c rfl⟩
  · refine ⟨Q + 1, by omega, ?_, fun k hk => ?_⟩
    · show upd (M 8) 0 (M 8 0 + 1) 0 = _
      unfold upd
      rw [if_pos rfl, eQ, nI_1]
    · show ∃ e9 : Nat, e9 < E ∧ upd (M 9) (M 8 0).toNatClampNeg (M 12 0) k = nI e9
      rw [eQ, nI_clamp (by omega)]
      unfold upd
      by_cases q : k = Q
      · rw [if_pos q]; exact hw 0 hW0
      · rw [if_neg q]; exact hq k (by omega)
  · refine ⟨W - 1, by omega, ?_, fun k hk => ?_⟩
    · show upd (M 11) 0 (M 11 0 - 1) 0 = _
      unfold upd
      rw [if_pos rfl]; exact nI_pr eW hW0
    · show ∃ e9 : Nat, e9 < E ∧ shf (M 12) ((M 11 0).toNatClampNeg - 1) k = nI e9
      rw [eW, nI_clamp (by omega)]
      unfold shf
      rw [if_pos hk]
      exact hw (k + 1) (by omega)
theorem OKM.dr {E : Nat} : ∀ (n : Nat) {M : Nat → Nat → Int32}, OKM M E → OKM (drN n M) E
  | 0, _, h => h
  | n + 1, M, h => by
    show OKM (if M 11 0 ≤ 0 then M else if M 35 0 < M 13 0 then M else if 20 ≤ M 8 0 then M else drN n (dr1 M)) E
    split
    · exact h
    · split
      · exact h
      · split
        · exact h
        · rename_i a b c
          exact OKM.dr n (h.d1 a c)
theorem OKM.fd {M : Nat → Nat → Int32} {E : Nat} (h : OKM M E) : OKM (fdM M) E := by
  unfold fdM
  split
  · exact h
  · rename_i h0
    obtain ⟨Q, hQ, eQ, hq⟩ := h.1
    have hQ0 : 0 < Q := Nat.pos_of_ne_zero (fun q => h0 (by rw [eQ, q]; decide))
    refine ⟨?_, ?_, h.2.2.1.c rfl rfl, h.2.2.2.1.c rfl rfl, h.2.2.2.2.1.c rfl, h.2.2.2.2.2.c rfl⟩
    · refine ⟨Q - 1, by omega, ?_, fun k hk => ?_⟩
      · show upd (M 8) 0 (M 8 0 - 1) 0 = _
        unfold upd
        rw [if_pos rfl]; exact nI_pr eQ hQ0
      · show ∃ e9 : Nat, e9 < E ∧ shf (M 9) ((M 8 0).toNatClampNeg - 1) k = nI e9
        rw [eQ, nI_clamp (by omega)]
        unfold shf
        rw [if_pos hk]
        exact hq (k + 1) (by omega)
    · intro i hi
      show ∃ v : Nat, v ≤ E ∧ upd (M 10) 0 (M 9 0 + 1) i = nI v
      unfold upd
      by_cases q : i = 0
      · rw [if_pos q]
        obtain ⟨e, he, e9⟩ := hq 0 hQ0
        exact ⟨e + 1, by omega, by rw [e9, nI_1]⟩
      · rw [if_neg q]; exact h.2.1 i hi
theorem OKM.tkA {M : Nat → Nat → Int32} {E : Nat} (h : OKM M E) : OKM (tkA M) E := h.s1.s2.s3
theorem OKM.tkB {M : Nat → Nat → Int32} {E : Nat} (h : OKM M E) (hE : E ≤ 600) : OKM (tkB M) E := (OKM.dr 30 ((h.tkA.lk hE).tk4 hE 4 (by decide))).fd
theorem okm_35 {N : Nat → Nat → Int32} {E : Nat} {v : Int32} (h : OKM N E) : OKM (up2 N 35 0 v) E := ⟨h.1.c rfl rfl, h.2.1.c rfl, h.2.2.1.c rfl rfl, h.2.2.2.1.c rfl rfl, h.2.2.2.2.1.c rfl, h.2.2.2.2.2.c rfl⟩
theorem okm_ot {M : Nat → Nat → Int32} {E : Nat} (h : OKM M E) (hE : E ≤ 600) : OKM (otM M) E := okm_35 (h.tkB hE)

