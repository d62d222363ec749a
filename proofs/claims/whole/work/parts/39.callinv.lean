/-! what holds of the model's numbers between the law's calls -/
def Iv (M : Nat → Nat → Int32) (E now : Nat) : Prop := TI M E now ∧ TapOK M E ∧ CameOK M ∧ OrOK M (M 30 0).toNatClampNeg ∧ M 0 0 = nI E ∧ ∀ e, E ≤ e → M 6 e = 0 ∧ M 7 e = 0
section C39
variable {M N : Nat → Nat → Int32} {E now Q O P : Nat} {T : Int64} {lo : Nat → Nat}
theorem CameOK.c (h : CameOK M) (h15 : ∀ i, 16 ≤ i → N 15 i = M 15 i) (h0 : N 0 = M 0) : CameOK N := by
  unfold CameOK
  rw [rowN_0, h15 16 (by decide), h15 17 (by decide), h15 18 (by decide), h15 19 (by decide), h0, ← rowN_0]
  exact h
theorem OrOK.c (h : OrOK M O) (h32 : N 32 = M 32) : OrOK N O := by unfold OrOK; rw [h32]; exact h
theorem Iv.c (h : Iv M E now) (hh : ∀ g, g ≠ 16 → g ≠ 17 → g ≠ 28 → g ≠ 34 → g ≠ 36 → N g = M g) : Iv N E now := by
  have H : ∀ g, (g ≠ 16 ∧ g ≠ 17 ∧ g ≠ 28 ∧ g ≠ 34 ∧ g ≠ 36) → N g = M g := fun g q => hh g q.1 q.2.1 q.2.2.1 q.2.2.2.1 q.2.2.2.2
  obtain ⟨h1, h2, h3, h4, h5, h6⟩ := h
  refine ⟨h1.c (fun g q => H g (by omega)), h2.c (H 3 (by decide)), h3.c (fun i _ => by rw [H 15 (by decide)]) (H 0 (by decide)), ?_, ?_, fun e he => ?_⟩
  · rw [H 30 (by decide)]; exact h4.c (H 32 (by decide))
  · rw [H 0 (by decide)]; exact h5
  · rw [H 6 (by decide), H 7 (by decide)]; exact h6 e he
theorem Iv.h (h : Iv M E now) (hh : ∀ g, g ≠ 29 → N g = M g) (hp : PkOK N (M 21 0).toNatClampNeg) : Iv N E now := by
  obtain ⟨⟨⟨o1, o2, o3, o4, o5, o6⟩, ⟨lo, pl⟩, t3, t4, t5, t6⟩, h2, h3, h4, h5, h6⟩ := h
  refine ⟨⟨⟨o1.c (hh 8 (by decide)) (hh 9 (by decide)), o2.c (hh 10 (by decide)), o3.c (hh 11 (by decide)) (hh 12 (by decide)), o4.c (hh 19 (by decide)) (hh 20 (by decide)), o5.c (hh 21 (by decide)), o6.c (hh 1 (by decide))⟩, ⟨lo, pl.c (hh 8 (by decide)) (hh 9 (by decide)) (hh 10 (by decide)) (hh 11 (by decide)) (hh 12 (by decide)) (hh 19 (by decide)) (hh 20 (by decide))⟩, t3.c (hh 7 (by decide)), t4.c (hh 11 (by decide)) (hh 13 (by decide)), by rw [hh 21 (by decide)]; exact hp, by rw [hh 35 (by decide)]; exact t6⟩, h2.c (hh 3 (by decide)), h3.c (fun i _ => by rw [hh 15 (by decide)]) (hh 0 (by decide)), ?_, ?_, fun e he => ?_⟩
  · rw [hh 30 (by decide)]; exact h4.c (hh 32 (by decide))
  · rw [hh 0 (by decide)]; exact h5
  · rw [hh 6 (by decide), hh 7 (by decide)]; exact h6 e he
theorem Iv.drift (h : Iv M E now) (y : Int32) : Iv (if inR y (-9) 9 = 0 then M else up2 M 36 0 y) E now := by
  split
  · exact h
  · exact h.c (fun g _ _ _ _ q => up2_n q)
theorem Iv.grade (h : Iv M E now) (p y : Int32) : Iv (grdA M p y).1 E now := by
  unfold grdA
  split
  · exact h
  · split
    · exact h
    · split
      · exact h.c (fun g q _ _ _ _ => up2_n q)
      · exact h
theorem Iv.on (h : Iv M E now) (p z : Int32) : Iv (onA M p z).1 E now := by
  unfold onA
  split
  · exact h
  · exact h.c (fun g _ q _ _ _ => up2_n q)
theorem Iv.clear (h : Iv M E now) (p : Int32) : Iv (clrA M p).1 E now := by
  unfold clrA
  split
  · exact h
  · split
    · exact h
    · refine h.h (fun g q => up2_n q) (fun i hi => ?_)
      obtain ⟨d1, d2, d3, d4⟩ := h.1.2.2.2.2.1 i hi
      show (∃ k : Nat, 1 ≤ k ∧ k ≤ 15 ∧ up2 M 29 p.toNatClampNeg 0 23 i = nI k) ∧ up2 M 29 p.toNatClampNeg 0 24 i ≤ up2 M 29 p.toNatClampNeg 0 35 0 ∧ 0 ≤ up2 M 29 p.toNatClampNeg 0 25 i ∧ (up2 M 29 p.toNatClampNeg 0 29 i = 0 ∨ up2 M 29 p.toNatClampNeg 0 29 i = 1)
      rw [up2_n (by decide), up2_n (by decide), up2_n (by decide), up2_n (by decide), up2_s]
      refine ⟨d1, d2, d3, ?_⟩
      unfold upd
      by_cases q : i = p.toNatClampNeg
      · rw [if_pos q]; exact Or.inl rfl
      · rw [if_neg q]; exact d4
theorem Iv.db (h : Iv M E now) (hP : M 21 0 = nI P) (hP6 : P ≤ 60) (b f t hold : Int32) : Iv (dbN M b f t hold P).1 E now := by
  refine h.h (fun g q => dbN_n q P) (dbN_ok ?_ P)
  exact h.1.2.2.2.2.1
theorem Iv.doubt (h : Iv M E now) (hP : M 21 0 = nI P) (hP6 : P ≤ 60) (b hold : Int32) : Iv (dbtA M P b hold).1 E now := by
  unfold dbtA
  split
  · exact h
  · exact h.db hP hP6 _ _ _ _
theorem Iv.hours (h : Iv M E now) (hP : M 21 0 = nI P) (hP6 : P ≤ 60) (f t hold : Int32) : Iv (hrsA M P f t hold).1 E now := by
  unfold hrsA
  split
  · exact h
  · split
    · exact h.db hP hP6 _ _ _ _
    · exact h
theorem selN_n9 {g o lf sd : Int32} {f : Nat} (hf : f ≠ 28) : ∀ p, (selN M g o lf sd p).1 f = M f
  | 0 => rfl
  | p + 1 => by
    show (seq1 M g o p (selN M g o lf sd p)).1 f = M f
    unfold seq1
    split
    · exact selN_n9 hf p
    · split
      · split
        · exact selN_n9 hf p
        · show up2 _ 28 p o f = M f
          rw [up2_n hf]; exact selN_n9 hf p
      · exact selN_n9 hf p
theorem serN_n9 {z : Int32} {f : Nat} (hf : f ≠ 28) (hf2 : f ≠ 34) : ∀ o, (serN M z P o).1 f = M f
  | 0 => rfl
  | o + 1 => by
    show (if bitN z o = 1 then (up2 (selN (serN M z P o).1 ((serN M z P o).1 31 o) (nI o) ((serN M z P o).1 32 o) (serN M z P o).2 P).1 34 o 1, (selN (serN M z P o).1 ((serN M z P o).1 31 o) (nI o) ((serN M z P o).1 32 o) (serN M z P o).2 P).2.2) else serN M z P o).1 f = M f
    split
    · show up2 _ 34 o 1 f = M f
      rw [up2_n hf2, selN_n9 hf]; exact serN_n9 hf hf2 o
    · exact serN_n9 hf hf2 o
theorem Iv.serve (h : Iv M E now) : Iv (srvA M P O).1 E now := h.c (fun g _ _ q1 q2 _ => serN_n9 q1 q2 O)
theorem Iv.order (h : Iv M E now) (hO : M 30 0 = nI O) (hO6 : O ≤ 6) (g n y : Int32) : Iv (ordA M O g n y).1 E now := by
  unfold ordA
  split
  · exact h
  · split
    · exact h
    · split
      · exact h
      · split
        · exact h
        · rename_i h1 h2 h3 h4
          have hO5 : O < 6 := Nat.lt_of_le_of_ne hO6 (fun q => h4 (by rw [hO, q]; rfl))
          show Iv (ordM M O g n y) E now
          have o : ∀ f, (f ≠ 30 ∧ f ≠ 31 ∧ f ≠ 32 ∧ f ≠ 33 ∧ f ≠ 34) → ordM M O g n y f = M f := fun f q => by
            unfold ordM
            rw [up2_n q.1, up2_n q.2.2.2.2, up2_n q.2.2.2.1, up2_n q.2.2.1, up2_n q.2.1]
          have o30 : ordM M O g n y 30 0 = nI (O + 1) := by
            unfold ordM
            rw [up2_e, hO, nI_1]
          have o32 : ordM M O g n y 32 = upd (M 32) O n := by
            unfold ordM
            rw [up2_n (by decide), up2_n (by decide), up2_n (by decide), up2_s, up2_n (by decide)]
          obtain ⟨x1, x2, x3, x4, x5, x6⟩ := h
          refine ⟨x1.c (fun f q => o f (by omega)), x2.c (o 3 (by decide)), x3.c (fun i _ => by rw [o 15 (by decide)]) (o 0 (by decide)), ?_, by rw [o 0 (by decide)]; exact x5, fun e he => by rw [o 6 (by decide), o 7 (by decide)]; exact x6 e he⟩
          rw [o30, nI_clamp (by omega)]
          intro k hk
          rw [o32]
          unfold upd
          by_cases q : k = O
          · rw [if_pos q]
            obtain ⟨x, hx, ex⟩ := inR_1x (n := 9) rfl h2
            exact ⟨x, hx, ex⟩
          · rw [if_neg q]
            exact x4 k (by rw [hO, nI_clamp (by omega)]; omega)
theorem Iv.tik (h : Iv M E now) (hE : E ≤ 600) (i : Nat) (hi : now + i ≤ 30000) : Iv (tikN M T i).1 E (now + i) := by
  obtain ⟨x1, x2, x3, x4, x5, x6⟩ := h
  have t := Tt.tik (T := T) x1.1 hE i
  refine ⟨x1.tik hE i hi, x2.c (t.1 3 (by decide)), x3.c t.2.1 (t.1 0 (by decide)), ?_, by rw [t.1 0 (by decide)]; exact x5, fun e he => by rw [(t.2.2 e he).1, (t.2.2 e he).2]; exact x6 e he⟩
  rw [t.1 30 (by decide)]
  exact x4.c (t.1 32 (by decide))
theorem Iv.tick (h : Iv M E now) (hE : E ≤ 600) (n : Int32) (hi : now + 40 ≤ 30000) : ∃ now' : Nat, now' ≤ now + 40 ∧ Iv (tikM M T n).1 E now' := by
  unfold tikM
  by_cases q : inR n 1 40 = 0
  · rw [if_pos q]; exact ⟨now, by omega, h⟩
  · rw [if_neg q]
    obtain ⟨x, hx, ex⟩ := inR_1x (n := 40) rfl q
    rw [ex, nI_clamp (by omega)]
    exact ⟨now + x, by omega, h.tik hE x (by omega)⟩
/-! egg -/
theorem eggM_o {b y t r d : Int32} {f : Nat} (h : f ≠ 0 ∧ f ≠ 1 ∧ f ≠ 2 ∧ f ≠ 3 ∧ f ≠ 4 ∧ f ≠ 5 ∧ f ≠ 8 ∧ f ≠ 9 ∧ f ≠ 15) : eggM M E Q b y t r d f = M f := by
  unfold eggM
  rw [up2_n h.1, up2_n h.2.2.2.2.2.2.2.2, up2_n h.2.2.2.2.2.2.1, up2_n h.2.2.2.2.2.2.2.1, up2_n h.2.2.2.2.2.1, up2_n h.2.2.2.2.1, up2_n h.2.2.2.1, up2_n h.2.2.1, up2_n h.2.1]
theorem eggM_0 {b y t r d : Int32} : eggM M E Q b y t r d 0 0 = M 0 0 + 1 := by
  unfold eggM
  rw [up2_e]
theorem eggM_1 {b y t r d : Int32} : eggM M E Q b y t r d 1 = upd (M 1) E b := by
  unfold eggM
  rw [up2_n (by decide), up2_n (by decide), up2_n (by decide), up2_n (by decide), up2_n (by decide), up2_n (by decide), up2_n (by decide), up2_n (by decide), up2_s]
theorem eggM_3 {b y t r d : Int32} : eggM M E Q b y t r d 3 = upd (M 3) E t := by
  unfold eggM
  rw [up2_n (by decide), up2_n (by decide), up2_n (by decide), up2_n (by decide), up2_n (by decide), up2_n (by decide), up2_s, up2_n (by decide), up2_n (by decide)]
theorem eggM_8 {b y t r d : Int32} : eggM M E Q b y t r d 8 0 = M 8 0 + 1 := by
  unfold eggM
  rw [up2_n (by decide), up2_n (by decide), up2_e]
theorem eggM_9 {b y t r d : Int32} : eggM M E Q b y t r d 9 = upd (M 9) Q (M 0 0) := by
  unfold eggM
  rw [up2_n (by decide), up2_n (by decide), up2_n (by decide), up2_s, up2_n (by decide), up2_n (by decide), up2_n (by decide), up2_n (by decide), up2_n (by decide)]
theorem eggM_15 {b y t r d : Int32} : eggM M E Q b y t r d 15 = upd (M 15) (16 + b.toNatClampNeg) (M 15 (16 + b.toNatClampNeg) + 1) := by
  unfold eggM
  rw [up2_n (by decide), up2_s, up2_n (by decide), up2_n (by decide), up2_n (by decide), up2_n (by decide), up2_n (by decide), up2_n (by decide), up2_n (by decide)]
theorem a4_0 (a b c d : Int32) : 0 + (a + 1) + b + c + d = 0 + a + b + c + d + 1 := by
  ac_rfl
theorem a4_1 (a b c d : Int32) : 0 + a + (b + 1) + c + d = 0 + a + b + c + d + 1 := by
  ac_rfl
theorem a4_2 (a b c d : Int32) : 0 + a + b + (c + 1) + d = 0 + a + b + c + d + 1 := by
  ac_rfl
theorem a4_3 (a b c d : Int32) : 0 + a + b + c + (d + 1) = 0 + a + b + c + d + 1 := by
  ac_rfl
theorem came_egg {b y t r d : Int32} {x : Nat} (h : CameOK M) (hx : x < 4) (hb : b = nI x) : CameOK (eggM M E Q b y t r d) := by
  unfold CameOK at h ⊢
  rw [eggM_0, ← h, rowN_0, rowN_0, eggM_15, hb, nI_clamp (by omega)]
  unfold upd
  rcases (show x = 0 ∨ x = 1 ∨ x = 2 ∨ x = 3 by omega) with rfl | rfl | rfl | rfl
  · exact a4_0 _ _ _ _
  · exact a4_1 _ _ _ _
  · exact a4_2 _ _ _ _
  · exact a4_3 _ _ _ _
theorem Iv.egg1 {b y t r d : Int32} (h : Iv M E now) (hE : E < 600) (hQ : M 8 0 = nI Q) (hQ2 : Q < 20) (hb : ¬ inR b 0 3 = 0) (ht : ¬ inR t 0 15 = 0) : Iv (eggM M E Q b y t r d) (E + 1) now := by
  obtain ⟨x, hx, ex⟩ := inR_3 hb
  obtain ⟨u, hu, eu⟩ := inR_x (n := 15) rfl ht
  have o := fun f q => @eggM_o M E Q b y t r d f q
  obtain ⟨⟨⟨o1, o2, o3, o4, o5, o6⟩, ⟨lo, pl⟩, t3, t4, t5, t6⟩, h2, h3, h4, h5, h6⟩ := h
  have okM : OKM M E := ⟨o1, o2, o3, o4, o5, o6⟩
  have h8 : eggM M E Q b y t r d 8 0 = nI (Q + 1) := by rw [eggM_8, hQ, nI_1]
  have hcQ : (M 8 0).toNatClampNeg = Q := by rw [hQ]; exact nI_clamp (by omega)
  obtain ⟨Q0, q1, q2, q3⟩ := o1
  have hQ0 : Q0 = Q := (nI_eq (by omega) (by omega)).mp (q2.symm.trans hQ)
  subst hQ0
  obtain ⟨W0, w1, w2, w3⟩ := id o3
  have hcW : (M 11 0).toNatClampNeg = W0 := by rw [w2]; exact nI_clamp (by omega)
  refine ⟨⟨⟨⟨Q0 + 1, by omega, h8, fun k hk => ?_⟩, fun k hk => ?_, ?_, ?_, ?_, fun e he => ?_⟩, ⟨fun z => if z = E then Q0 else lo z, ?_, ?_, ?_, ?_⟩, fun e he => ?_, ?_, ?_, ?_⟩, fun e he => ?_, came_egg h3 hx ex, ?_, ?_, fun e he => ?_⟩
  · rw [eggM_9]
    unfold upd
    by_cases q : k = Q0
    · rw [if_pos q]; exact ⟨E, by omega, h5⟩
    · rw [if_neg q]
      obtain ⟨e, he, ee⟩ := q3 k (by omega)
      exact ⟨e, by omega, ee⟩
  · rw [o 10 (by decide)]
    obtain ⟨z, hz, ez⟩ := o2 k hk
    exact ⟨z, by omega, ez⟩
  · refine ⟨W0, w1, by rw [o 11 (by decide)]; exact w2, fun k hk => ?_⟩
    rw [o 12 (by decide)]
    obtain ⟨e, he, ee⟩ := w3 k hk
    exact ⟨e, by omega, ee⟩
  · intro p hp
    rw [o 19 (by decide), o 20 (by decide)]
    obtain ⟨t9, z1, z2, z3⟩ := o4 p hp
    refine ⟨t9, z1, z2, fun k hk => ?_⟩
    obtain ⟨e, he, ee⟩ := z3 k hk
    exact ⟨e, by omega, ee⟩
  · exact o5.c (o 21 (by decide))
  · rw [eggM_1]
    unfold upd
    by_cases q : e = E
    · rw [if_pos q]; exact ⟨x, hx, ex⟩
    · rw [if_neg q]; exact o6 e (by omega)
  · intro k hk
    rw [h8, nI_clamp (by omega)] at hk
    rw [eggM_9]
    unfold upd
    by_cases q : k = Q0
    · rw [if_pos q, h5, nI_clamp (by omega)]
      show (if E = E then Q0 else lo E) = k
      rw [if_pos rfl, q]
    · rw [if_neg q]
      obtain ⟨e, he, ee⟩ := q3 k (by omega)
      have := pl.1 k (by rw [hcQ]; omega)
      rw [ee, nI_clamp (by omega)] at this ⊢
      show (if e = E then Q0 else lo e) = k
      rw [if_neg (by omega)]; exact this
  · intro k hk
    rw [o 11 (by decide), hcW] at hk
    rw [o 12 (by decide)]
    obtain ⟨e, he, ee⟩ := w3 k hk
    have := pl.2.1 k (by rw [hcW]; exact hk)
    rw [ee, nI_clamp (by omega)] at this ⊢
    show (if e = E then Q0 else lo e) = 100 + k
    rw [if_neg (by omega)]; exact this
  · intro k hk hn
    have e10 := o 10 (by decide)
    unfold eN
    rw [e10] at hn ⊢
    have he := (okM.egg (by omega) hk hn).1
    have := pl.2.2.1 k hk hn
    show (if eN M k = E then Q0 else lo (eN M k)) = 200 + k
    rw [if_neg (by omega)]; exact this
  · intro p hp k hk
    rw [o 19 (by decide)] at hk
    unfold trE
    rw [o 20 (by decide)]
    have he := (okM.tr (by omega) hp k hk).1
    have := pl.2.2.2 p hp k hk
    show (if trE M p k = E then Q0 else lo (trE M p k)) = 300 + 6 * p + k
    rw [if_neg (by omega)]; exact this
  · rw [o 7 (by decide)]
    by_cases q : e = E
    · rw [q, (h6 E (Nat.le_refl _)).2]; exact ⟨0, Nat.zero_le _, rfl⟩
    · exact t3 e (by omega)
  · exact t4.c (o 11 (by decide)) (o 13 (by decide))
  · rw [o 21 (by decide)]
    exact t5.c (o 23 (by decide)) (o 24 (by decide)) (o 25 (by decide)) (o 29 (by decide)) (o 35 (by decide))
  · rw [o 35 (by decide)]; exact t6
  · rw [eggM_3]
    unfold upd
    by_cases q : e = E
    · rw [if_pos q]; exact ⟨u, by omega, eu⟩
    · rw [if_neg q]; exact h2 e (by omega)
  · rw [o 30 (by decide)]; exact h4.c (o 32 (by decide))
  · rw [eggM_0, h5, nI_1]
  · rw [o 6 (by decide), o 7 (by decide)]; exact h6 e (by omega)
theorem Iv.egg (h : Iv M E now) (hE : E < 600) (hQ : M 8 0 = nI Q) (hQ2 : Q ≤ 20) (b y t r d : Int32) {E' : Nat} (hE1 : E' ≤ E + 1) (he : (eggA M E Q b y t r d).1 0 0 = nI E') : Iv (eggA M E Q b y t r d).1 E' now := by
  have key : ∀ N, Iv N E now → N 0 0 = nI E' → Iv N E' now := fun N hN hz => by
    have : E' = E := (nI_eq (by omega) (by omega)).mp (hz.symm.trans hN.2.2.2.2.1)
    rw [this]; exact hN
  unfold eggA at he ⊢
  by_cases h1 : inR b 0 3 = 0
  · rw [if_pos h1] at he ⊢; exact key _ h he
  · rw [if_neg h1] at he ⊢
    by_cases h2 : inR y 30 90 = 0
    · rw [if_pos h2] at he ⊢; exact key _ h he
    · rw [if_neg h2] at he ⊢
      by_cases h3 : inR t 0 15 = 0
      · rw [if_pos h3] at he ⊢; exact key _ h he
      · rw [if_neg h3] at he ⊢
        by_cases h4 : inR r 0 9 = 0
        · rw [if_pos h4] at he ⊢; exact key _ h he
        · rw [if_neg h4] at he ⊢
          by_cases h5 : inR d 0 3 = 0
          · rw [if_pos h5] at he ⊢; exact key _ h he
          · rw [if_neg h5] at he ⊢
            by_cases h6 : M 8 0 = 20
            · rw [if_pos h6] at he ⊢; exact key _ h he
            · rw [if_neg h6] at he ⊢
              have hQl : Q < 20 := Nat.lt_of_le_of_ne hQ2 (fun q => h6 (by rw [hQ, q]; rfl))
              have hN := h.egg1 (b := b) (y := y) (t := t) (r := r) (d := d) hE hQ hQl h1 h3
              have e0 : eggM M E Q b y t r d 0 0 = nI E' := he
              have : E' = E + 1 := (nI_eq (by omega) (by omega)).mp (e0.symm.trans hN.2.2.2.2.1)
              rw [this]; exact hN
end C39

