/-! the class's constructor -/
def Ux (h : Nat) (S S' : CS) : Prop := ∀ x, x ∈ S.1 → x ∈ S'.1 ∧ S'.2.1 x = S.2.1 x ∧ S'.2.2.1 x = S.2.2.1 x ∧ S'.2.2.2.2.2.2.1 x = S.2.2.2.2.2.2.1 x ∧ S'.2.2.2.2.2.2.2 x = S.2.2.2.2.2.2.2 x ∧ (∀ f, S'.2.2.2.1 f x = S.2.2.2.1 f x) ∧ (x ≠ h → ∀ f, S'.2.2.2.2.1 f x = S.2.2.2.2.1 f x) ∧ S'.2.2.2.2.2.1 x = S.2.2.2.2.2.1 x
def RH (h f q : Nat) (S S' : CS) : Prop := ∀ g, S'.2.2.2.2.1 g h = if g = f then some q else S.2.2.2.2.1 g h
def stL (te h f q : Nat) (S S' : CS) : Prop := Ux h S S' ∧ RH h f q S S' ∧ q ∉ S.1 ∧ Is S' q 6 ∧ S'.2.2.2.1 51 q = 0 ∧ S'.2.2.2.2.1 8 q = some te
def stA (h f q kd N : Nat) (S S' : CS) : Prop := Ux h S S' ∧ RH h f q S S' ∧ q ∉ S.1 ∧ Is S' q kd ∧ S'.2.2.1 q = N ∧ ∀ i, S'.2.2.2.2.2.2.2 q i = none
def stM (h f q : Nat) (r : Nat → Nat) (S S' : CS) : Prop := Ux h S S' ∧ RH h f q S S' ∧ q ∉ S.1 ∧ Is S' q 11 ∧ S'.2.2.1 q = 4 ∧ (∀ i, i < 4 → S'.2.2.2.2.2.2.2 q i = some (r i) ∧ Is S' (r i) 7 ∧ S'.2.2.1 (r i) = 5 ∧ ∀ x, S'.2.2.2.2.2.2.1 (r i) x = 0) ∧ ∀ i k, i < 4 → k < 4 → r i = r k → i = k
section C42
variable {te h f q : Nat} {S S' S2 : CS}
theorem Ux.t (u : Ux h S S') (u2 : Ux h S' S2) : Ux h S S2 := fun x hx => by
  obtain ⟨a1, a2, a3, a4, a5, a6, a7, a8⟩ := u x hx
  obtain ⟨b1, b2, b3, b4, b5, b6, b7, b8⟩ := u2 x a1
  exact ⟨b1, b2.trans a2, b3.trans a3, b4.trans a4, b5.trans a5, fun f => (b6 f).trans (a6 f), fun q f => (b7 q f).trans (a7 q f), b8.trans a8⟩
theorem Ux.is {x kd : Nat} (u : Ux h S S') (hx : Is S x kd) : Is S' x kd := ⟨(u x hx.1).1, (u x hx.1).2.1.trans hx.2⟩
theorem Rx.ur9 {q f : Nat} {o : Option Nat} (r : Rx S S') (hq : q ∉ S.1) : Rx S (uR S' f q o) := fun x hx => by
  obtain ⟨h1, h2, h3, h4, h5, h6, h7, h8⟩ := r x hx
  exact ⟨h1, h2, h3, h4, h5, h6, fun g => (upr_o (show x ≠ q from fun e => hq (e ▸ hx))).trans (h7 g), h8⟩
theorem Rx.na9 {q kd N : Nat} (hq : q ∉ S.1) : Rx S (nA S q kd N) := fun x hx => by
  have hne : x ≠ q := fun e => hq (e ▸ hx)
  exact ⟨List.mem_append_left _ hx, va_up_ne _ _ hne, va_up_ne _ _ hne, va_up_ne _ _ hne, va_up_ne _ _ hne, fun f => rfl, fun f => rfl, rfl⟩
theorem Rx.mn {q : Nat} {r : Nat → Nat} (hq : q ∉ S.1) (hr : ∀ i, i < 4 → r i ∉ S.1 ∧ r i ≠ q) : Rx S (mnS S q r) := fun x hx => by
  have hne : x ≠ q := fun e => hq (e ▸ hx)
  have hm : x ∉ (List.range 4).map r := fun z => by
    obtain ⟨i, hi, e⟩ := mn_rows.mp z
    exact (hr i hi).1 (by rw [e]; exact hx)
  exact ⟨List.mem_cons_of_mem _ (List.mem_append_left _ hx), (if_neg hne).trans (if_neg hm), (if_neg hne).trans (if_neg hm), if_neg hm, if_neg hne, fun f => rfl, fun f => rfl, rfl⟩
theorem Rx.ux {o : Option Nat} (r : Rx S S') : Ux h S (uR S' f h o) := fun x hx => by
  obtain ⟨h1, h2, h3, h4, h5, h6, h7, h8⟩ := r x hx
  exact ⟨h1, h2, h3, h4, h5, h6, fun z g => (upr_o z).trans (h7 g), h8⟩
theorem Rx.rh (r : Rx S S') (hh : h ∈ S.1) : RH h f q S (uR S' f h (some q)) := fun g => by
  show upr S'.2.2.2.2.1 f h (some q) g h = _
  by_cases e : g = f
  · rw [if_pos e, e, upr_e]
  · rw [if_neg e, upr_n e]
    exact (r h hh).2.2.2.2.2.2.1 g
theorem st_list (hh : h ∈ S.1) (hq : q ∉ S.1) : stL te h f q S (uR (uR (uI (nO S q 6) 50 q 0) 8 q (some te)) f h (some q)) := by
  have r : Rx S (uR (uI (nO S q 6) 50 q 0) 8 q (some te)) := Rx.ur9 ((Rx.new hq).uI hq) hq
  have hne : q ≠ h := fun e => hq (e ▸ hh)
  refine ⟨r.ux, r.rh hh, hq, (show Is (nO S q 6) q 6 from Is.new), ?_, ?_⟩
  · show up2 (zI S.2.2.2.1 q) 50 q 0 51 q = 0
    rw [up2_n (by decide)]
    exact if_pos rfl
  · show upr (upr (zR S.2.2.2.2.1 q) 8 q (some te)) f h (some q) 8 q = some te
    rw [upr_o hne, upr_e]
theorem st_arr {kd N : Nat} (hh : h ∈ S.1) (hq : q ∉ S.1) : stA h f q kd N S (uR (nA S q kd N) f h (some q)) := by
  have r : Rx S (nA S q kd N) := Rx.na9 hq
  refine ⟨r.ux, r.rh hh, hq, Is.newA (n := N), va_up_self _ _ _, fun i => ?_⟩
  show va_up S.2.2.2.2.2.2.2 q (fun _ => none) q i = none
  rw [va_up_self]
theorem st_mn {r : Nat → Nat} (hh : h ∈ S.1) (hq : q ∉ S.1) (hi : ∀ i k, i < 4 → k < 4 → r i = r k → i = k) (hr : ∀ i, i < 4 → r i ∉ S.1 ∧ r i ≠ q) : stM h f q r S (uR (mnS S q r) f h (some q)) := by
  have rx : Rx S (mnS S q r) := Rx.mn hq hr
  refine ⟨rx.ux, rx.rh hh, hq, ⟨List.mem_cons_self, if_pos rfl⟩, if_pos rfl, fun i hi4 => ?_, hi⟩
  have hm : r i ∈ (List.range 4).map r := mn_rows.mpr ⟨i, hi4, rfl⟩
  refine ⟨?_, ⟨List.mem_cons_of_mem _ (List.mem_append_right _ hm), (if_neg (hr i hi4).2).trans (if_pos hm)⟩, (if_neg (hr i hi4).2).trans (if_pos hm), fun x => ?_⟩
  · show (if q = q then (fun i => if i < 4 then some (r i) else none) else S.2.2.2.2.2.2.2 q) i = some (r i)
    rw [if_pos rfl, if_pos hi4]
  · show (if r i ∈ (List.range 4).map r then (fun _ => 0) else S.2.2.2.2.2.2.1 (r i)) x = 0
    rw [if_pos hm]
/-- the house but for its packers -/
def B0 (te : Nat) (a : Nat → Nat) (S : CS) : Prop :=
  (Is S (a 0) 4 ∧ (S.2.2.2.2.1 1 (a 0) = some (a 1) ∧ S.2.2.2.2.1 2 (a 0) = some (a 2) ∧ S.2.2.2.2.1 3 (a 0) = some (a 3) ∧ S.2.2.2.2.1 4 (a 0) = some (a 4) ∧ S.2.2.2.2.1 5 (a 0) = some (a 5) ∧ S.2.2.2.2.1 6 (a 0) = some (a 6) ∧ S.2.2.2.2.1 7 (a 0) = some (a 7)) ∧ (∀ f, S.2.2.2.1 f (a 0) = 0) ∧ S.2.2.2.2.2.1 (a 0) = 0) ∧
  (∀ i, LI i → Is S (a i) 6 ∧ S.2.2.2.1 51 (a i) = 0 ∧ S.2.2.2.2.1 8 (a i) = some te) ∧ (Is S (a 3) 8 ∧ S.2.2.1 (a 3) = 16 ∧ ∀ i, S.2.2.2.2.2.2.2 (a 3) i = none) ∧ (Is S (a 4) 9 ∧ S.2.2.1 (a 4) = 4) ∧
  (Is S (a 7) 11 ∧ S.2.2.1 (a 7) = 4 ∧ ∀ i, i < 4 → S.2.2.2.2.2.2.2 (a 7) i = some (a (10 + i)) ∧ Is S (a (10 + i)) 7 ∧ S.2.2.1 (a (10 + i)) = 5 ∧ ∀ x, S.2.2.2.2.2.2.1 (a (10 + i)) x = 0)
def D0 (a : Nat → Nat) : Prop := (a 1 ≠ a 2 ∧ a 1 ≠ a 5 ∧ a 1 ≠ a 6 ∧ a 2 ≠ a 5 ∧ a 2 ≠ a 6 ∧ a 5 ≠ a 6) ∧ ∀ i k, i < 4 → k < 4 → a (10 + i) = a (10 + k) → i = k
def aH (l : List Nat) (r : Nat → Nat) : Nat → Nat := fun k => if k < 8 then l.getD k 0 else r (k - 10)
theorem aH_r {l : List Nat} {r : Nat → Nat} (i : Nat) : aH l r (10 + i) = r i := by
  unfold aH
  rw [if_neg (by omega), show 10 + i - 10 = i by omega]
theorem Ux.L {x : Nat} (u : Ux h S S') (hx : Is S x 6 ∧ S.2.2.2.1 51 x = 0 ∧ S.2.2.2.2.1 8 x = some te) (hne : x ≠ h) : Is S' x 6 ∧ S'.2.2.2.1 51 x = 0 ∧ S'.2.2.2.2.1 8 x = some te := by
  obtain ⟨a1, a2, a3, a4, a5, a6, a7, a8⟩ := u x hx.1.1
  exact ⟨u.is hx.1, (a6 51).trans hx.2.1, (a7 hne 8).trans hx.2.2⟩
theorem B0_of {q1 q2 q3 q4 q5 q6 q7 : Nat} {r : Nat → Nat} {S1 S2 S3 S4 S5 S6 S7 : CS} (s1 : stL te h 1 q1 (nO eS h 4) S1) (s2 : stL te h 2 q2 S1 S2) (s3 : stA h 3 q3 8 16 S2 S3) (s4 : stA h 4 q4 9 4 S3 S4) (s5 : stL te h 5 q5 S4 S5) (s6 : stL te h 6 q6 S5 S6) (s7 : stM h 7 q7 r S6 S7) : B0 te (aH [h, q1, q2, q3, q4, q5, q6, q7] r) S7 ∧ D0 (aH [h, q1, q2, q3, q4, q5, q6, q7] r) := by
  have h0 : Is (nO eS h 4) h 4 := Is.new
  have hh1 := s1.1.is h0
  have hh2 := s2.1.is hh1
  have hh3 := s3.1.is hh2
  have hh4 := s4.1.is hh3
  have hh5 := s5.1.is hh4
  have hh6 := s6.1.is hh5
  have n1 : q1 ≠ h := fun e => s1.2.2.1 (by rw [e]; exact h0.1)
  have n2 : q2 ≠ h := fun e => s2.2.2.1 (by rw [e]; exact hh1.1)
  have n5 : q5 ≠ h := fun e => s5.2.2.1 (by rw [e]; exact hh4.1)
  have n6 : q6 ≠ h := fun e => s6.2.2.1 (by rw [e]; exact hh5.1)
  have t67 := s7.1
  have t57 := s6.1.t t67
  have t47 := s5.1.t t57
  have t37 := s4.1.t t47
  have t27 := s3.1.t t37
  have t17 := s2.1.t t27
  have t07 := s1.1.t t17
  have r1 := s1.2.1
  have r2 := s2.2.1
  have r3 := s3.2.1
  have r4 := s4.2.1
  have r5 := s5.2.1
  have r6 := s6.2.1
  have r7 := s7.2.1
  have z0 := t07 h h0.1
  refine ⟨⟨⟨t07.is h0, ⟨?_, ?_, ?_, ?_, ?_, ?_, ?_⟩, fun f => ?_, ?_⟩, ?_, ⟨t37.is s3.2.2.2.1, ?_, fun i => ?_⟩, ⟨t47.is s4.2.2.2.1, ?_⟩, ⟨s7.2.2.2.1, s7.2.2.2.2.1, fun i hi => ?_⟩⟩, ⟨?_, ?_, ?_, ?_, ?_, ?_⟩, fun i k hi hk e => ?_⟩
  · show S7.2.2.2.2.1 1 h = some q1
    rw [r7, if_neg (by decide), r6, if_neg (by decide), r5, if_neg (by decide), r4, if_neg (by decide), r3, if_neg (by decide), r2, if_neg (by decide), r1, if_pos rfl]
  · show S7.2.2.2.2.1 2 h = some q2
    rw [r7, if_neg (by decide), r6, if_neg (by decide), r5, if_neg (by decide), r4, if_neg (by decide), r3, if_neg (by decide), r2, if_pos rfl]
  · show S7.2.2.2.2.1 3 h = some q3
    rw [r7, if_neg (by decide), r6, if_neg (by decide), r5, if_neg (by decide), r4, if_neg (by decide), r3, if_pos rfl]
  · show S7.2.2.2.2.1 4 h = some q4
    rw [r7, if_neg (by decide), r6, if_neg (by decide), r5, if_neg (by decide), r4, if_pos rfl]
  · show S7.2.2.2.2.1 5 h = some q5
    rw [r7, if_neg (by decide), r6, if_neg (by decide), r5, if_pos rfl]
  · show S7.2.2.2.2.1 6 h = some q6
    rw [r7, if_neg (by decide), r6, if_pos rfl]
  · show S7.2.2.2.2.1 7 h = some q7
    rw [r7, if_pos rfl]
  · exact (z0.2.2.2.2.2.1 f).trans (if_pos rfl)
  · exact z0.2.2.2.2.2.2.2.trans (va_up_self _ _ _)
  · rintro i (rfl | rfl | rfl | rfl)
    · exact t17.L s1.2.2.2 n1
    · exact t27.L s2.2.2.2 n2
    · exact t57.L s5.2.2.2 n5
    · exact t67.L s6.2.2.2 n6
  · exact (t37 q3 s3.2.2.2.1.1).2.2.1.trans s3.2.2.2.2.1
  · show S7.2.2.2.2.2.2.2 q3 i = none
    rw [(t37 q3 s3.2.2.2.1.1).2.2.2.2.1]
    exact s3.2.2.2.2.2 i
  · exact (t47 q4 s4.2.2.2.1.1).2.2.1.trans s4.2.2.2.2.1
  · rw [aH_r]
    exact s7.2.2.2.2.2.1 i hi
  · exact fun e => s2.2.2.1 (by rw [← show q1 = q2 from e]; exact s1.2.2.2.1.1)
  · exact fun e => s5.2.2.1 (by rw [← show q1 = q5 from e]; exact ((s2.1.t (s3.1.t s4.1)).is s1.2.2.2.1).1)
  · exact fun e => s6.2.2.1 (by rw [← show q1 = q6 from e]; exact ((s2.1.t (s3.1.t (s4.1.t s5.1))).is s1.2.2.2.1).1)
  · exact fun e => s5.2.2.1 (by rw [← show q2 = q5 from e]; exact ((s3.1.t s4.1).is s2.2.2.2.1).1)
  · exact fun e => s6.2.2.1 (by rw [← show q2 = q6 from e]; exact ((s3.1.t (s4.1.t s5.1)).is s2.2.2.2.1).1)
  · exact fun e => s6.2.2.1 (by rw [← show q5 = q6 from e]; exact s5.2.2.2.1.1)
  · rw [aH_r, aH_r] at e
    exact s7.2.2.2.2.2.2 i k hi hk e
/-! the packers -/
def Uy (b : Nat) (S S' : CS) : Prop := ∀ x, x ∈ S.1 → x ∈ S'.1 ∧ S'.2.1 x = S.2.1 x ∧ S'.2.2.1 x = S.2.2.1 x ∧ S'.2.2.2.2.2.2.1 x = S.2.2.2.2.2.2.1 x ∧ (x ≠ b → S'.2.2.2.2.2.2.2 x = S.2.2.2.2.2.2.2 x) ∧ (∀ f, S'.2.2.2.1 f x = S.2.2.2.1 f x) ∧ (∀ f, S'.2.2.2.2.1 f x = S.2.2.2.2.1 f x) ∧ S'.2.2.2.2.2.1 x = S.2.2.2.2.2.1 x
theorem Uy.is {b x kd : Nat} (u : Uy b S S') (hx : Is S x kd) : Is S' x kd := ⟨(u x hx.1).1, (u x hx.1).2.1.trans hx.2⟩
theorem B0.y {a : Nat → Nat} (b0 : B0 te a S) (u : Uy (a 4) S S') : B0 te a S' := by
  obtain ⟨⟨c1, c2, c3, c4⟩, l, ⟨d1, d2, d3⟩, ⟨e1, e2⟩, f1, f2, f3⟩ := b0
  have n3 : a 3 ≠ a 4 := fun q => absurd (d1.2.symm.trans ((congrArg S.2.1 q).trans e1.2)) (by decide)
  have n7 : a 7 ≠ a 4 := fun q => absurd (f1.2.symm.trans ((congrArg S.2.1 q).trans e1.2)) (by decide)
  have z := u _ c1.1
  refine ⟨⟨u.is c1, ?_, fun f => ?_, ?_⟩, fun i hi => ?_, ⟨u.is d1, ?_, fun i => ?_⟩, ⟨u.is e1, ?_⟩, ⟨u.is f1, ?_, fun i hi => ?_⟩⟩
  · rw [z.2.2.2.2.2.2.1, z.2.2.2.2.2.2.1, z.2.2.2.2.2.2.1, z.2.2.2.2.2.2.1, z.2.2.2.2.2.2.1, z.2.2.2.2.2.2.1, z.2.2.2.2.2.2.1]; exact c2
  · exact (z.2.2.2.2.2.1 f).trans (c3 f)
  · exact z.2.2.2.2.2.2.2.trans c4
  · obtain ⟨l1, l2, l3⟩ := l i hi
    exact ⟨u.is l1, ((u _ l1.1).2.2.2.2.2.1 51).trans l2, ((u _ l1.1).2.2.2.2.2.2.1 8).trans l3⟩
  · exact (u _ d1.1).2.2.1.trans d2
  · rw [(u _ d1.1).2.2.2.2.1 n3]; exact d3 i
  · exact (u _ e1.1).2.2.1.trans e2
  · exact (u _ f1.1).2.2.1.trans f2
  · obtain ⟨g1, g2, g3, g4⟩ := f3 i hi
    rw [(u _ f1.1).2.2.2.2.1 n7]
    exact ⟨g1, u.is g2, (u _ g2.1).2.2.1.trans g3, fun x => by rw [(u _ g2.1).2.2.2.1]; exact g4 x⟩
def PK (b : Nat) (pa ta : Nat → Nat) (i : Nat) (S : CS) : Prop := (∀ k, k < i → S.2.2.2.2.2.2.2 b k = some (pa k) ∧ (Is S (pa k) 3 ∧ S.2.2.2.1 30 (pa k) = nI (8 + 2 * k) ∧ S.2.2.2.1 31 (pa k) = nI (2 + k) ∧ S.2.2.2.1 32 (pa k) = 1 ∧ S.2.2.2.1 33 (pa k) = 0 ∧ S.2.2.2.2.1 0 (pa k) = some (ta k)) ∧ (Is S (ta k) 2 ∧ (∀ f, f ≠ 27 → S.2.2.2.1 f (ta k) = 0) ∧ S.2.2.2.1 27 (ta k) = -9)) ∧ (∀ k l, k < i → l < i → pa k = pa l → k = l) ∧ ∀ k l, k < i → l < i → ta k = ta l → k = l
def stP (b i p t : Nat) (pl g : Int32) (S S' : CS) : Prop := Uy b S S' ∧ S'.2.2.2.2.2.2.2 b = va_up (S.2.2.2.2.2.2.2 b) i (some p) ∧ (p ∉ S.1 ∧ t ∉ S.1) ∧ (Is S' p 3 ∧ S'.2.2.2.1 30 p = pl ∧ S'.2.2.2.1 31 p = g ∧ S'.2.2.2.1 32 p = 1 ∧ S'.2.2.2.1 33 p = 0 ∧ S'.2.2.2.2.1 0 p = some t) ∧ (Is S' t 2 ∧ (∀ f, f ≠ 27 → S'.2.2.2.1 f t = 0) ∧ S'.2.2.2.1 27 t = -9)
theorem pk_Rx {p t : Nat} {pl g : Int32} (hp : p ∉ S.1) (ht : t ∉ (nO S p 3).1) : Rx S (pkrS (nO S p 3) p t pl g) := by
  have ht2 : t ∉ S.1 := fun z => ht (List.mem_append_left _ z)
  have r1 : Rx S (uI (nO S p 3) 32 p 1) := (Rx.new hp).uI hp
  have r2 : Rx (uI (nO S p 3) 32 p 1) (nO (uI (nO S p 3) 32 p 1) t 2) := Rx.new ht
  have r3 : Rx S (nO (uI (nO S p 3) 32 p 1) t 2) := fun x hx => by
    obtain ⟨a1, a2, a3, a4, a5, a6, a7, a8⟩ := r1 x hx
    obtain ⟨b1, b2, b3, b4, b5, b6, b7, b8⟩ := r2 x a1
    exact ⟨b1, b2.trans a2, b3.trans a3, b4.trans a4, b5.trans a5, fun f => (b6 f).trans (a6 f), fun f => (b7 f).trans (a7 f), b8.trans a8⟩
  exact ((Rx.ur9 (r3.uI ht2) hp).uI hp).uI hp
theorem st_pk {b i p t : Nat} {pl g : Int32} (hp : p ∉ S.1) (ht : t ∉ (nO S p 3).1) : stP b i p t pl g S (uB (pkrS (nO S p 3) p t pl g) b (va_up ((pkrS (nO S p 3) p t pl g).2.2.2.2.2.2.2 b) i (some p))) := by
  have r := pk_Rx (pl := pl) (g := g) hp ht
  have ht2 : t ∉ S.1 := fun z => ht (List.mem_append_left _ z)
  have htp : t ≠ p := fun z => ht (by rw [z]; exact List.mem_append_right _ (List.mem_singleton.mpr rfl))
  have hIp : Is (nO (uI (nO S p 3) 32 p 1) t 2) p 3 := Is.old (S := uI (nO S p 3) 32 p 1) (show Is (nO S p 3) p 3 from Is.new) ht
  have eI : ∀ f x, (uB (pkrS (nO S p 3) p t pl g) b (va_up ((pkrS (nO S p 3) p t pl g).2.2.2.2.2.2.2 b) i (some p))).2.2.2.1 f x = up2 (up2 (up2 (zI (up2 (zI S.2.2.2.1 p) 32 p 1) t) 27 t (-9)) 30 p pl) 31 p g f x := fun f x => rfl
  refine ⟨fun x hx => ?_, ?_, ⟨hp, ht2⟩, ⟨hIp, ?_, ?_, ?_, ?_, ?_⟩, ⟨(show Is (nO (uI (nO S p 3) 32 p 1) t 2) t 2 from Is.new), fun f hf => ?_, ?_⟩⟩
  · obtain ⟨h1, h2, h3, h4, h5, h6, h7, h8⟩ := r x hx
    exact ⟨h1, h2, h3, h4, fun z => (va_up_ne _ _ z).trans h5, h6, h7, h8⟩
  · show va_up (pkrS (nO S p 3) p t pl g).2.2.2.2.2.2.2 b (va_up ((pkrS (nO S p 3) p t pl g).2.2.2.2.2.2.2 b) i (some p)) b = _
    rw [va_up_self]
    rfl
  · rw [eI, up2_n (by decide), up2_e]
  · rw [eI, up2_e]
  · rw [eI, up2_n (by decide), up2_n (by decide), up2_n (by decide)]
    show (if p = t then 0 else up2 (zI S.2.2.2.1 p) 32 p 1 32 p) = 1
    rw [if_neg (fun z => htp z.symm), up2_e]
  · rw [eI, up2_n (by decide), up2_n (by decide), up2_n (by decide)]
    show (if p = t then 0 else up2 (zI S.2.2.2.1 p) 32 p 1 33 p) = 0
    rw [if_neg (fun z => htp z.symm), up2_n (by decide)]
    exact if_pos rfl
  · show upr (zR (zR S.2.2.2.2.1 p) t) 0 p (some t) 0 p = some t
    exact upr_e
  · rw [eI, up2_o htp, up2_o htp, up2_n hf]
    exact if_pos rfl
  · rw [eI, up2_o htp, up2_o htp, up2_e]
theorem PK.s {b i p t : Nat} {pa ta : Nat → Nat} (k : PK b pa ta i S) (hb : b ∈ S.1) (s : stP b i p t (nI (8 + 2 * i)) (nI (2 + i)) S S') : PK b (va_up pa i p) (va_up ta i t) (i + 1) S' := by
  obtain ⟨u, ub, ⟨hp, ht⟩, fp, ft⟩ := s
  refine ⟨fun m hm => ?_, fun m l hm hl => ?_, fun m l hm hl => ?_⟩
  · by_cases q : m = i
    · subst q
      rw [ub, va_up_self, va_up_self, va_up_self]
      exact ⟨rfl, fp, ft⟩
    · rw [ub, va_up_ne _ _ q, va_up_ne _ _ q, va_up_ne _ _ q]
      obtain ⟨k1, ⟨p1, p2, p3, p4, p5, p6⟩, ⟨t1, t2, t3⟩⟩ := k.1 m (by omega)
      have zp := u _ p1.1
      have zt := u _ t1.1
      exact ⟨k1, ⟨u.is p1, (zp.2.2.2.2.2.1 30).trans p2, (zp.2.2.2.2.2.1 31).trans p3, (zp.2.2.2.2.2.1 32).trans p4, (zp.2.2.2.2.2.1 33).trans p5, (zp.2.2.2.2.2.2.1 0).trans p6⟩, ⟨u.is t1, fun f hf => (zt.2.2.2.2.2.1 f).trans (t2 f hf), (zt.2.2.2.2.2.1 27).trans t3⟩⟩
  · by_cases q1 : m = i
    · by_cases q2 : l = i
      · exact fun _ => q1.trans q2.symm
      · rw [q1, va_up_self, va_up_ne _ _ q2]
        exact fun z => absurd (by rw [z]; exact (k.1 l (by omega)).2.1.1.1) hp
    · by_cases q2 : l = i
      · rw [q2, va_up_self, va_up_ne _ _ q1]
        exact fun z => absurd (by rw [← z]; exact (k.1 m (by omega)).2.1.1.1) hp
      · rw [va_up_ne _ _ q1, va_up_ne _ _ q2]
        exact k.2.1 m l (by omega) (by omega)
  · by_cases q1 : m = i
    · by_cases q2 : l = i
      · exact fun _ => q1.trans q2.symm
      · rw [q1, va_up_self, va_up_ne _ _ q2]
        exact fun z => absurd (by rw [z]; exact (k.1 l (by omega)).2.2.1.1) ht
    · by_cases q2 : l = i
      · rw [q2, va_up_self, va_up_ne _ _ q1]
        exact fun z => absurd (by rw [← z]; exact (k.1 m (by omega)).2.2.1.1) ht
      · rw [va_up_ne _ _ q1, va_up_ne _ _ q2]
        exact k.2.2 m l (by omega) (by omega)
/-! the start's tie -/
def a9 (a pa : Nat → Nat) : Nat → Nat := fun k => if k < 20 then a k else pa (k - 20)
def v9 (te : Nat) : Nat → Nat := fun k => if k < 10 then te else 0
def w9 (ta : Nat → Nat) : Nat → Nat → Nat := fun g i => if g = 2 then ta i else 0
theorem a9_p {a pa : Nat → Nat} (p : Nat) : a9 a pa (20 + p) = pa p := by
  unfold a9
  rw [if_neg (by omega), show 20 + p - 20 = p by omega]
theorem a9_b {a pa : Nat → Nat} {i : Nat} (hi : i < 4) : a9 a pa (10 + i) = a (10 + i) := by
  unfold a9
  rw [if_pos (by omega)]
theorem M0_n {g : Nat} (hg : g ≠ 16) (x : Nat) : M0 g x = 0 := by
  unfold M0
  rw [if_neg hg]
theorem M0_16 : ∀ {p : Nat}, p < 4 → M0 16 p = nI (2 + p)
  | 0, _ => by decide
  | 1, _ => by decide
  | 2, _ => by decide
  | 3, _ => by decide
  | _ + 4, h => absurd h (by omega)
theorem CI_start {a pa ta : Nat → Nat} (b0 : B0 te a S) (d0 : D0 a) (pk : PK (a 4) pa ta 4 S) : CI te (a9 a pa) (v9 te) (w9 ta) 0 0 0 0 0 S M0 0 ∧ CapOK (v9 te) := by
  obtain ⟨⟨c1, c2, c3, c4⟩, l, ⟨d1, d2, d3⟩, ⟨e1, e2⟩, f1, f2, f3⟩ := b0
  have LS : ∀ i, LI i → ∀ g : Nat → Nat, LsA te S (a i) 0 te 0 g := fun i hi g => ⟨(l i hi).1, (l i hi).2.1, (l i hi).2.2, ⟨Nat.le_refl _, by omega⟩, Or.inl ⟨rfl, rfl⟩, fun k hk => absurd hk (by omega)⟩
  refine ⟨⟨⟨c1, c2, c3 40, c3 41, c3 42, c4⟩, ⟨⟨by omega, rfl⟩, LS 1 I1 _⟩, ⟨⟨by omega, rfl⟩, LS 2 I2 _, fun i hi => absurd hi (by omega)⟩, ⟨⟨by omega, rfl⟩, LS 5 I5 _⟩, ⟨⟨by omega, rfl⟩, LS 6 I6 _⟩, ⟨d1, d2, fun k hk => ?_⟩, ⟨e1, e2, fun p hp => ?_⟩, fun p hp => ?_, fun i hi => absurd hi (by omega), fun i hi => absurd hi (by omega), fun i hi => absurd hi (by omega), ⟨f1, f2, fun b hb => ?_⟩, d0.1, ⟨fun _ => rfl, fun _ => rfl, fun _ => rfl, fun _ => rfl, fun _ => rfl, fun _ => rfl⟩, fun e f he => absurd he (by omega), fun e f he => absurd he (by omega), fun p q hp hq e => ?_, fun i p hi => absurd hi (by omega), fun p q hp hq e => ?_, fun b c hb hc e => ?_, fun e f he => absurd he (by omega)⟩, Or.inl rfl, Or.inl rfl, Or.inl rfl, Or.inl rfl⟩
  · show S.2.2.2.2.2.2.2 (a 3) k = if M0 10 k = 0 then none else _
    rw [if_pos (M0_n (by decide) k)]
    exact d3 k
  · obtain ⟨k1, ⟨p1, p2, p3, p4, p5, p6⟩, ⟨t1, t2, t3⟩⟩ := pk.1 p hp
    rw [a9_p, M0_16 hp, M0_n (by decide), M0_n (by decide)]
    exact ⟨k1, p1, p2, p3, p4, p5, p6, t1⟩
  · obtain ⟨k1, ⟨p1, p2, p3, p4, p5, p6⟩, ⟨t1, t2, t3⟩⟩ := pk.1 p hp
    have hw : w9 ta 2 p = ta p := if_pos rfl
    have h19 : (M0 19 p).toNatClampNeg = 0 := by rw [M0_n (by decide)]; rfl
    rw [hw, h19, M0_n (by decide), t2 21 (by decide), t2 22 (by decide), t2 24 (by decide), t2 25 (by decide), t2 26 (by decide), t2 28 (by decide)]
    exact ⟨rfl, rfl, fun z => absurd z (by omega), fun _ => rfl, rfl, rfl, t3, rfl⟩
  · rw [a9_b hb, M0_n (by decide)]
    obtain ⟨g1, g2, g3, g4⟩ := f3 b hb
    exact ⟨g1, g2, g3, g4 0, fun k hk => by rw [M0_n (by decide)]; exact g4 _⟩
  · exact pk.2.2 p q hp hq e
  · rw [a9_p, a9_p] at e
    exact pk.2.1 p q hp hq e
  · rw [a9_b hb, a9_b hc] at e
    exact d0.2 b c hb hc e
theorem Iv_start : Iv M0 0 0 := by
  have z : ∀ g, g ≠ 16 → (M0 g 0).toNatClampNeg = 0 := fun g hg => by rw [M0_n hg]; rfl
  refine ⟨⟨⟨⟨0, by omega, rfl, fun k hk => absurd hk (by omega)⟩, fun k hk => ⟨0, by omega, M0_n (by decide) k⟩, ⟨0, by omega, rfl, fun k hk => absurd hk (by omega)⟩, fun p hp => ⟨0, by omega, M0_n (by decide) p, fun k hk => absurd hk (by omega)⟩, ⟨0, by omega, rfl⟩, fun e he => absurd he (by omega)⟩, ⟨fun _ => 0, fun k hk => absurd hk (by rw [z 8 (by decide)]; omega), fun k hk => absurd hk (by rw [z 11 (by decide)]; omega), fun k hk hn => absurd (by rw [M0_n (by decide)]; exact z1lt) hn, fun p hp k hk => absurd hk (by rw [M0_n (by decide)]; show ¬ k < (nI 0).toNatClampNeg; rw [nI_clamp (by omega)]; omega)⟩, fun e he => absurd he (by omega), fun i hi => absurd hi (by rw [z 11 (by decide)]; omega), fun i hi => absurd hi (by rw [z 21 (by decide)]; omega), rfl, by omega⟩, fun e he => absurd he (by omega), ?_, fun o ho => absurd ho (by rw [z 30 (by decide)]; omega), rfl, fun e _ => ⟨M0_n (by decide) e, M0_n (by decide) e⟩⟩
  unfold CameOK
  rw [rowN_0, M0_n (by decide), M0_n (by decide), M0_n (by decide), M0_n (by decide), M0_n (by decide)]
  rfl
end C42
section C42b
variable {D : va_G} {ar : Nat → ClassId} {tg te mi : Nat} {S : CS}
variable {h : Nat}
theorem pk_is {p t x kd : Nat} {pl g : Int32} (hx : Is S x kd) (hp : p ∉ S.1) (ht : t ∉ (nO S p 3).1) : Is (pkrS (nO S p 3) p t pl g) x kd := ⟨(pk_Rx hp ht x hx.1).1, (pk_Rx hp ht x hx.1).2.1.trans hx.2⟩
theorem pk_ip {p t : Nat} {pl g : Int32} (ht : t ∉ (nO S p 3).1) : Is (pkrS (nO S p 3) p t pl g) p 3 := (show Is (nO (uI (nO S p 3) 32 p 1) t 2) p 3 from Is.old (S := uI (nO S p 3) 32 p 1) (show Is (nO S p 3) p 3 from Is.new) ht)
set_option maxRecDepth 100000 in
theorem k_X4_init   : Cn D ar (XC tg te mi) yX4_init cX4_init 2 none 4 72 19 112 [.ref h] (cW ar (nO eS h 4)) (fun r w9 => r = none ∧ ∃ (S' : CS) (a v : Nat → Nat) (w : Nat → Nat → Nat), w9 = cW ar S' ∧ a 0 = h ∧ CI te a v w 0 0 0 0 0 S' M0 0 ∧ CapOK v) := by
  refine Cn.ofI (own := RX4) XC_ok (by decide) rfl rfl (Nat.le_of_ble_eq_true rfl) (fun j C CI => ?_)
  have C0 := C.to
  show j _ 0 0 0 [(0, _)] []
  have hh : Is (nO eS h 4) h 4 := Is.new
  refine r_aload_n C0 0 0 dX4_init_0 rfl rfl ?_
  refine r_objInit C0 1 mlX4_1 im_oi co_oi dX4_init_1 (Nat.le_of_ble_eq_true rfl) (Nat.le_of_ble_eq_true rfl) ?_
  refine r_aload_n C0 4 0 dX4_init_4 rfl rfl ?_
  refine ca_new6 C0 5 clX4_7 (Nat.le_of_ble_eq_true rfl) (Nat.le_of_ble_eq_true rfl) dX4_init_5 (fun q1 hq1 => ?_)
  refine r_dup C0 8 dX4_init_8 rfl ?_
  refine c_init (As := []) C0 9 0 (k_Jx4a65c_init_da8c8 Is.new) (rm_Jx4a65c_init_da8c8 (Nat.le_of_ble_eq_true rfl) (Nat.le_of_ble_eq_true rfl) (Nat.le_of_ble_eq_true rfl) (Nat.le_of_ble_eq_true rfl)) mlX4_9 im_Jx4a65c_init_da8c8 rfl rfl (Nat.le_of_ble_eq_true rfl) dX4_init_9 ?_
  rintro _ _ ⟨rfl, rfl⟩
  refine cpR_1 CI 12 flX4_10 (hh.old hq1) dX4_init_12 ?_
  refine gs (F := stL te h 1 q1 (nO eS h 4)) (st_list hh.1 hq1) (fun S1 s1 => ?_)
  replace hh : Is S1 h 4 := s1.1.is hh
  refine r_aload_n C0 15 0 dX4_init_15 rfl rfl ?_
  refine ca_new6 C0 16 clX4_7 (Nat.le_of_ble_eq_true rfl) (Nat.le_of_ble_eq_true rfl) dX4_init_16 (fun q2 hq2 => ?_)
  refine r_dup C0 19 dX4_init_19 rfl ?_
  refine c_init (As := []) C0 20 0 (k_Jx4a65c_init_da8c8 Is.new) (rm_Jx4a65c_init_da8c8 (Nat.le_of_ble_eq_true rfl) (Nat.le_of_ble_eq_true rfl) (Nat.le_of_ble_eq_true rfl) (Nat.le_of_ble_eq_true rfl)) mlX4_9 im_Jx4a65c_init_da8c8 rfl rfl (Nat.le_of_ble_eq_true rfl) dX4_init_20 ?_
  rintro _ _ ⟨rfl, rfl⟩
  refine cpR_2 CI 23 flX4_16 (hh.old hq2) dX4_init_23 ?_
  refine gs (F := stL te h 2 q2 S1) (st_list hh.1 hq2) (fun S2 s2 => ?_)
  replace hh : Is S2 h 4 := s2.1.is hh
  refine r_aload_n C0 26 0 dX4_init_26 rfl rfl ?_
  refine r_bipush C0 27 16 dX4_init_27 (by decide) ?_
  refine ca_newE C0 29 16 clX4_19 rfl (by decide) (Nat.le_of_ble_eq_true rfl) (Nat.le_of_ble_eq_true rfl) dX4_init_29 (fun q3 hq3 => ?_)
  refine cpR_3 CI 32 flX4_21 (hh.oldA hq3) dX4_init_32 ?_
  refine gs (F := stA h 3 q3 8 16 S2) (st_arr hh.1 hq3) (fun S3 s3 => ?_)
  replace hh : Is S3 h 4 := s3.1.is hh
  refine r_aload_n C0 35 0 dX4_init_35 rfl rfl ?_
  refine r_iconst C0 36 4 dX4_init_36 (by decide) ?_
  refine ca_newP C0 37 4 clX4_25 rfl (by decide) (Nat.le_of_ble_eq_true rfl) (Nat.le_of_ble_eq_true rfl) dX4_init_37 (fun q4 hq4 => ?_)
  refine cpR_4 CI 40 flX4_27 (hh.oldA hq4) dX4_init_40 ?_
  refine gs (F := stA h 4 q4 9 4 S3) (st_arr hh.1 hq4) (fun S4 s4 => ?_)
  replace hh : Is S4 h 4 := s4.1.is hh
  refine r_aload_n C0 43 0 dX4_init_43 rfl rfl ?_
  refine ca_new6 C0 44 clX4_7 (Nat.le_of_ble_eq_true rfl) (Nat.le_of_ble_eq_true rfl) dX4_init_44 (fun q5 hq5 => ?_)
  refine r_dup C0 47 dX4_init_47 rfl ?_
  refine c_init (As := []) C0 48 0 (k_Jx4a65c_init_da8c8 Is.new) (rm_Jx4a65c_init_da8c8 (Nat.le_of_ble_eq_true rfl) (Nat.le_of_ble_eq_true rfl) (Nat.le_of_ble_eq_true rfl) (Nat.le_of_ble_eq_true rfl)) mlX4_9 im_Jx4a65c_init_da8c8 rfl rfl (Nat.le_of_ble_eq_true rfl) dX4_init_48 ?_
  rintro _ _ ⟨rfl, rfl⟩
  refine cpR_5 CI 51 flX4_31 (hh.old hq5) dX4_init_51 ?_
  refine gs (F := stL te h 5 q5 S4) (st_list hh.1 hq5) (fun S5 s5 => ?_)
  replace hh : Is S5 h 4 := s5.1.is hh
  refine r_aload_n C0 54 0 dX4_init_54 rfl rfl ?_
  refine ca_new6 C0 55 clX4_7 (Nat.le_of_ble_eq_true rfl) (Nat.le_of_ble_eq_true rfl) dX4_init_55 (fun q6 hq6 => ?_)
  refine r_dup C0 58 dX4_init_58 rfl ?_
  refine c_init (As := []) C0 59 0 (k_Jx4a65c_init_da8c8 Is.new) (rm_Jx4a65c_init_da8c8 (Nat.le_of_ble_eq_true rfl) (Nat.le_of_ble_eq_true rfl) (Nat.le_of_ble_eq_true rfl) (Nat.le_of_ble_eq_true rfl)) mlX4_9 im_Jx4a65c_init_da8c8 rfl rfl (Nat.le_of_ble_eq_true rfl) dX4_init_59 ?_
  rintro _ _ ⟨rfl, rfl⟩
  refine cpR_6 CI 62 flX4_34 (hh.old hq6) dX4_init_62 ?_
  refine gs (F := stL te h 6 q6 S5) (st_list hh.1 hq6) (fun S6 s6 => ?_)
  replace hh : Is S6 h 4 := s6.1.is hh
  refine r_aload_n C0 65 0 dX4_init_65 rfl rfl ?_
  refine r_iconst C0 66 4 dX4_init_66 (by decide) ?_
  refine r_iconst C0 67 5 dX4_init_67 (by decide) ?_
  refine ca_mna C0 68 clX4_37 (Nat.le_of_ble_eq_true rfl) (Nat.le_of_ble_eq_true rfl) dX4_init_68 (fun q7 r hq7 hri hrr => ?_)
  refine cpR_7 CI 72 flX4_39 ((Rx.mn hq7 hrr).rp.is hh) dX4_init_72 ?_
  refine gs (F := stM h 7 q7 r S6) (st_mn hh.1 hq7 hri hrr) (fun S7 s7 => ?_)
  replace hh : Is S7 h 4 := s7.1.is hh
  obtain ⟨b0, d0⟩ := B0_of s1 s2 s3 s4 s5 s6 s7
  have ha0 : aH [h, q1, q2, q3, q4, q5, q6, q7] r 0 = h := rfl
  generalize aH [h, q1, q2, q3, q4, q5, q6, q7] r = a at b0 d0 ha0
  clear s1 s2 s3 s4 s5 s6 s7 hri hrr hq1 hq2 hq3 hq4 hq5 hq6 hq7
  subst ha0
  suffices key : ∀ i, i ≤ 4 → (fun i => ∀ (S2 : CS) (pa ta : Nat → Nat), B0 te a S2 → PK (a 4) pa ta i S2 → j (cW ar S2) (11 + 2 * i) (56 + 14 * i) 77 [(0, .ref (a 0)), (1, .int (nI i))] []) i by
    refine r_iconst C0 75 0 dX4_init_75 (by decide) ?_
    refine r_istore_n (lv' := [(0, _), (1, _)]) C0 76 1 dX4_init_76 rfl rfl (by decide) rfl ?_
    exact key 0 (by decide) S7 (fun _ => 0) (fun _ => 0) b0 ⟨fun k hk => absurd hk (by omega), fun k l hk => absurd hk (by omega), fun k l hk => absurd hk (by omega)⟩
  refine loopUp (P := 4) (f := fun i => ∀ (S2 : CS) (pa ta : Nat → Nat), B0 te a S2 → PK (a 4) pa ta i S2 → j (cW ar S2) (11 + 2 * i) (56 + 14 * i) 77 [(0, .ref (a 0)), (1, .int (nI i))] []) (fun i hi ih S2 pa ta b2 pk2 => ?_)
  refine r_iload_n C0 77 1 dX4_init_77 rfl rfl ?_
  refine r_iconst C0 78 4 dX4_init_78 (by decide) ?_
  refine r_icmp_ge C0 79 110 dX4_init_79 (by decide) (fun c_79 => ?_) (fun c_79 => ?_)
  · have hge : 4 ≤ i := (nI_leI (a := 4) (by omega) (by omega)).mp c_79
    have e9 : i = 4 := by omega
    subst e9
    refine r_vret C 110 dX4_init_110 (Nat.le_of_ble_eq_true rfl) (Nat.le_of_ble_eq_true rfl) ?_
    obtain ⟨c9, k9⟩ := CI_start b2 d0 pk2
    exact ⟨rfl, S2, a9 a pa, _, _, rfl, rfl, c9, k9⟩
  · have hlt : i < 4 := Nat.lt_of_not_le (fun q => c_79 (nI_le (a := 4) q (by omega)))
    have hA4 := b2.2.2.2.1.1
    refine r_aload_n C0 82 0 dX4_init_82 rfl rfl ?_
    refine cgR_4 C0 83 b2.1.2.1.2.2.2.1 flX4_27 b2.1.1 dX4_init_83 ?_
    refine r_iload_n C0 86 1 dX4_init_86 rfl rfl ?_
    refine ca_new3 C0 87 clX4_25 (by show _ ≤ 19; omega) (by show _ ≤ 112; omega) dX4_init_87 (fun p hp => ?_)
    refine r_dup C0 90 dX4_init_90 rfl ?_
    refine r_bipush C0 91 8 dX4_init_91 (by decide) ?_
    refine r_iload_n C0 93 1 dX4_init_93 rfl rfl ?_
    refine r_iconst C0 94 2 dX4_init_94 (by decide) ?_
    refine r_imul C0 95 dX4_init_95 ?_
    refine r_iadd C0 96 dX4_init_96 ?_
    rw [show (8 : Int32) + nI i * 2 = nI (8 + 2 * i) by rw [show (2 : Int32) = nI 2 from rfl, pk_mul, show (8 : Int32) = nI 8 from rfl, nI_add, Nat.mul_comm]]
    refine r_iconst C0 97 2 dX4_init_97 (by decide) ?_
    refine r_iload_n C0 98 1 dX4_init_98 rfl rfl ?_
    refine r_iadd C0 99 dX4_init_99 ?_
    rw [show (2 : Int32) + nI i = nI (2 + i) from nI_add 2 i]
    refine c_init (As := [.int _, .int _]) C0 100 2 (k_X3_init Is.new _ _) (rm_X3_init (Nat.le_of_ble_eq_true rfl) (Nat.le_of_ble_eq_true rfl) (by show _ ≤ 19; omega) (by show _ ≤ 112; omega)) mlX4_42 im_X3_init rfl rfl (Nat.le_of_ble_eq_true rfl) dX4_init_100 ?_
    rintro _ _ ⟨t, ht, rfl, rfl⟩
    have hA4 : Is (pkrS (nO S2 p 3) p t (nI (8 + 2 * i)) (nI (2 + i))) (a 4) 9 := pk_is b2.2.2.2.1.1 hp ht
    have hpk : Is (pkrS (nO S2 p 3) p t (nI (8 + 2 * i)) (nI (2 + i))) p 3 := pk_ip ht
    have hl4 : (pkrS (nO S2 p 3) p t (nI (8 + 2 * i)) (nI (2 + i))).2.2.1 (a 4) = 4 := (pk_Rx hp ht _ b2.2.2.2.1.1.1).2.2.1.trans b2.2.2.2.1.2
    refine ca_astP C0 103 i hA4 hpk rfl (by rw [hl4]; exact hlt) (by rw [hl4]; decide) dX4_init_103 ?_
    refine r_iinc (lv' := [(0, _), (1, _)]) C0 104 _ dX4_init_104 rfl rfl rfl (by decide) rfl ?_
    refine r_goto C0 107 77 dX4_init_107 (by decide) ?_
    have sp := st_pk (b := a 4) (i := i) (pl := nI (8 + 2 * i)) (g := nI (2 + i)) hp ht
    have h9 := ih hlt _ _ _ (b2.y sp.1) (pk2.s b2.2.2.2.1.1.1 sp)
    rw [← nI_1 i] at h9
    exact r_widen C0 (11 + 2 * (i + 1)) (56 + 14 * (i + 1)) (by omega) (by omega) h9
end C42b
