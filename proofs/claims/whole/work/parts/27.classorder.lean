/-! the class: what an add, a remove and a new cell keep; order, egg -/
def Rx (S S' : CS) : Prop := ∀ x, x ∈ S.1 → x ∈ S'.1 ∧ S'.2.1 x = S.2.1 x ∧ S'.2.2.1 x = S.2.2.1 x ∧ S'.2.2.2.2.2.2.1 x = S.2.2.2.2.2.2.1 x ∧ S'.2.2.2.2.2.2.2 x = S.2.2.2.2.2.2.2 x ∧ (∀ f, S'.2.2.2.1 f x = S.2.2.2.1 f x) ∧ (∀ f, S'.2.2.2.2.1 f x = S.2.2.2.2.1 f x) ∧ S'.2.2.2.2.2.1 x = S.2.2.2.2.2.1 x
def Rp (S S' : CS) : Prop := ∀ x, x ∈ S.1 → x ∈ S'.1 ∧ S'.2.1 x = S.2.1 x ∧ S'.2.2.1 x = S.2.2.1 x ∧ S'.2.2.2.2.2.2.1 x = S.2.2.2.2.2.2.1 x ∧ (S.2.1 x ≠ 10 → S'.2.2.2.2.2.2.2 x = S.2.2.2.2.2.2.2 x) ∧ (∀ f, f ≠ 50 → f ≠ 51 → S'.2.2.2.1 f x = S.2.2.2.1 f x) ∧ (∀ f, f ≠ 8 → S'.2.2.2.2.1 f x = S.2.2.2.2.1 f x) ∧ S'.2.2.2.2.2.1 x = S.2.2.2.2.2.1 x
theorem Rx.rp {S S' : CS} (h : Rx S S') : Rp S S' := fun x hx => by
  obtain ⟨h1, h2, h3, h4, h5, h6, h7, h8⟩ := h x hx
  exact ⟨h1, h2, h3, h4, fun _ => h5, fun f _ _ => h6 f, fun f _ => h7 f, h8⟩
theorem Rx.is {S S' : CS} {x kd : Nat} (h : Rx S S') (hx : Is S x kd) : Is S' x kd := ⟨(h x hx.1).1, (h x hx.1).2.1.trans hx.2⟩
theorem Rp.is {S S' : CS} {x kd : Nat} (h : Rp S S') (hx : Is S x kd) : Is S' x kd := ⟨(h x hx.1).1, (h x hx.1).2.1.trans hx.2⟩
theorem Rp.el {S S' : CS} {x : Nat} (h : Rp S S') (hx : El S x) : El S' x := hx.old (fun _ _ z => h.is z)
theorem Rp.t {S S' S2 : CS} (h : Rp S S') (h2 : Rp S' S2) : Rp S S2 := fun x hx => by
  obtain ⟨a1, a2, a3, a4, a5, a6, a7, a8⟩ := h x hx
  obtain ⟨b1, b2, b3, b4, b5, b6, b7, b8⟩ := h2 x a1
  exact ⟨b1, b2.trans a2, b3.trans a3, b4.trans a4, fun q => (b5 (by rw [a2]; exact q)).trans (a5 q), fun f q r => (b6 f q r).trans (a6 f q r), fun f q => (b7 f q).trans (a7 f q), b8.trans a8⟩
theorem Rx.new {S : CS} {q kd : Nat} (hq : q ∉ S.1) : Rx S (nO S q kd) := fun x hx => by
  have hne : x ≠ q := fun e => hq (e ▸ hx)
  exact ⟨List.mem_append_left _ hx, va_up_ne _ _ hne, rfl, rfl, rfl, fun f => if_neg hne, fun f => if_neg hne, va_up_ne _ _ hne⟩
theorem Rx.uI {S S' : CS} {q f : Nat} {y : Int32} (h : Rx S S') (hq : q ∉ S.1) : Rx S (uI S' f q y) := fun x hx => by
  obtain ⟨h1, h2, h3, h4, h5, h6, h7, h8⟩ := h x hx
  exact ⟨h1, h2, h3, h4, h5, fun g => (up2_o (show x ≠ q from fun e => hq (e ▸ hx))).trans (h6 g), h7, h8⟩
theorem Rx.ls {te : Nat} {S S' : CS} {p n e cap : Nat} {f : Nat → Nat} (h : Rx S S') (l : LsA te S p n e cap f) : LsA te S' p n e cap f := by
  obtain ⟨l1, l2, l3, l4, l5, l6⟩ := l
  have z := h p l1.1
  refine ⟨h.is l1, (z.2.2.2.2.2.1 51).trans l2, (z.2.2.2.2.2.2.1 8).trans l3, l4, ?_, fun i hi => ⟨?_, h.rp.el (l6 i hi).2⟩⟩
  · rcases l5 with z | ⟨z1, z2, z3⟩
    · exact Or.inl z
    · exact Or.inr ⟨h.is z1, (h e z1.1).2.2.1.trans z2, z3⟩
  · rcases l5 with z | ⟨z1, z2, z3⟩
    · exact absurd hi (by omega)
    · rw [(h e z1.1).2.2.2.2.1]; exact (l6 i hi).1
/-- all clauses but the lists' -/
def cRe (a : Nat → Nat) (w : Nat → Nat → Nat) (E P O : Nat) (S : CS) (M : Nat → Nat → Int32) (T : Int64) : Prop := cHs a S M T ∧ cLn a w S M ∧ cPr a w S M ∧ cTr w S M ∧ cPa w P S M ∧ cEg w E S M ∧ cOd w O S M ∧ cBb a S M
section C27
variable {te : Nat} {S S' : CS} {a v : Nat → Nat} {w : Nat → Nat → Nat} {E Q W P O : Nat} {M : Nat → Nat → Int32} {T : Int64}
theorem Rp.re (h : Rp S S') (c : cRe a w E P O S M T) : cRe a w E P O S' M T := by
  obtain ⟨c1, c2, c3, c4, c5, c6, c7, c8⟩ := c
  refine ⟨?_, ⟨h.is c2.1, (h _ c2.1.1).2.2.1.trans c2.2.1, ?_⟩, ⟨h.is c3.1, (h _ c3.1.1).2.2.1.trans c3.2.1, fun p hp => ?_⟩, fun p hp => ?_, fun i hi => ?_, fun e he => ?_, fun o ho => ?_, ⟨h.is c8.1, (h _ c8.1.1).2.2.1.trans c8.2.1, fun b hb => ?_⟩⟩
  · obtain ⟨d1, d2, d3, d4, d5, d6⟩ := c1
    obtain ⟨-, -, -, -, -, zI, zR, zJ⟩ := h _ d1.1
    refine ⟨h.is d1, ?_, ?_, ?_, ?_, ?_⟩
    · rw [zR 1 (by decide), zR 2 (by decide), zR 3 (by decide), zR 4 (by decide), zR 5 (by decide), zR 6 (by decide), zR 7 (by decide)]; exact d2
    · rw [zI 40 (by decide) (by decide)]; exact d3
    · rw [zI 41 (by decide) (by decide)]; exact d4
    · rw [zI 42 (by decide) (by decide)]; exact d5
    · rw [zJ]; exact d6
  · rw [(h _ c2.1.1).2.2.2.2.1 (by rw [c2.1.2]; decide)]; exact c2.2.2
  · obtain ⟨d1, d2, d3, d4, d5, d6, d7, d8⟩ := c3.2.2 p hp
    obtain ⟨-, -, -, -, -, zI, zR, zJ⟩ := h _ d2.1
    rw [(h _ c3.1.1).2.2.2.2.1 (by rw [c3.1.2]; decide), zI 30 (by decide) (by decide), zI 31 (by decide) (by decide), zI 32 (by decide) (by decide), zI 33 (by decide) (by decide), zR 0 (by decide)]
    exact ⟨d1, h.is d2, d3, d4, d5, d6, d7, h.is d8⟩
  · obtain ⟨-, -, -, -, -, -, -, d8⟩ := c3.2.2 p hp
    obtain ⟨-, -, -, -, -, zI, zR, zJ⟩ := h _ d8.1
    rw [zI 21 (by decide) (by decide), zI 22 (by decide) (by decide), zI 23 (by decide) (by decide), zI 24 (by decide) (by decide), zI 25 (by decide) (by decide), zI 26 (by decide) (by decide), zI 27 (by decide) (by decide), zI 28 (by decide) (by decide)]
    exact c4 p hp
  · obtain ⟨d1, d⟩ := c5 i hi
    obtain ⟨-, -, -, -, -, zI, zR, zJ⟩ := h _ d1.1
    rw [zI 20 (by decide) (by decide), zI 22 (by decide) (by decide), zI 23 (by decide) (by decide), zI 24 (by decide) (by decide), zI 25 (by decide) (by decide), zI 26 (by decide) (by decide), zI 27 (by decide) (by decide), zI 28 (by decide) (by decide)]
    exact ⟨h.is d1, d⟩
  · obtain ⟨d1, d⟩ := c6 e he
    obtain ⟨-, -, -, -, -, zI, zR, zJ⟩ := h _ d1.1
    rw [zI 0 (by decide) (by decide), zI 1 (by decide) (by decide), zI 2 (by decide) (by decide), zI 3 (by decide) (by decide), zI 4 (by decide) (by decide), zI 5 (by decide) (by decide), zI 6 (by decide) (by decide), zI 7 (by decide) (by decide)]
    exact ⟨h.is d1, d⟩
  · obtain ⟨d1, d⟩ := c7 o ho
    obtain ⟨-, -, -, -, -, zI, zR, zJ⟩ := h _ d1.1
    rw [zI 10 (by decide) (by decide), zI 11 (by decide) (by decide), zI 12 (by decide) (by decide), zI 13 (by decide) (by decide)]
    exact ⟨h.is d1, d⟩
  · obtain ⟨d1, d2, d3, d4, d5⟩ := c8.2.2 b hb
    rw [(h _ c8.1.1).2.2.2.2.1 (by rw [c8.1.2]; decide), (h _ d2.1).2.2.1, (h _ d2.1).2.2.2.1]
    exact ⟨d1, h.is d2, d3, d4, d5⟩
/-! the four lists -/
def LI (i : Nat) : Prop := i = 1 ∨ i = 2 ∨ i = 5 ∨ i = 6
def L4 (te : Nat) (a v : Nat → Nat) (S : CS) (n : Nat → Nat) (f : Nat → Nat → Nat) : Prop := (∀ i, LI i → LsA te S (a i) (n i) (v i) (v (10 + i)) (f i)) ∧ ∀ i k, LI i → LI k → i ≠ k → a i ≠ a k ∧ (v i = v k → v i = te)
def vu (v : Nat → Nat) (i e c : Nat) : Nat → Nat := fun k => if k = i then e else if k = 10 + i then c else v k
def nn (Q W P O : Nat) : Nat → Nat := fun i => if i = 1 then Q else if i = 2 then W else if i = 5 then P else O
def ff (M : Nat → Nat → Int32) (w : Nat → Nat → Nat) : Nat → Nat → Nat := fun i k => if i = 1 then w 0 (M 9 k).toNatClampNeg else if i = 2 then w 0 (M 12 k).toNatClampNeg else if i = 5 then w 1 k else w 3 k
def cD3 (a : Nat → Nat) (w : Nat → Nat → Nat) (E P O : Nat) : Prop := (∀ e f, e < E → f < E → w 0 e = w 0 f → e = f) ∧ (∀ i k, i < P → k < P → w 1 i = w 1 k → i = k) ∧ (∀ p q, p < 4 → q < 4 → w 2 p = w 2 q → p = q) ∧ (∀ i p, i < P → p < 4 → w 1 i ≠ w 2 p) ∧ (∀ p q, p < 4 → q < 4 → a (20 + p) = a (20 + q) → p = q) ∧ (∀ b c, b < 4 → c < 4 → a (10 + b) = a (10 + c) → b = c) ∧ (∀ o u, o < O → u < O → w 3 o = w 3 u → o = u)
theorem CI.re (c : CI te a v w E Q W P O S M T) : cRe a w E P O S M T := by
  obtain ⟨c1, c2, c3, c4, c5, c6, c7, c8, c9, c10, c11, c12, c13⟩ := c
  exact ⟨c1, c6, c7, c8, c9, c10, c11, c12⟩
theorem CI.l4 (c : CI te a v w E Q W P O S M T) : L4 te a v S (nn Q W P O) (ff M w) := by
  obtain ⟨c1, c2, c3, c4, c5, c6, c7, c8, c9, c10, c11, c12, ⟨d1, d2, d3, d4, d5, d6⟩, ⟨e1, e2, e3, e4, e5, e6⟩, -⟩ := c
  refine ⟨?_, ?_⟩
  · rintro i (rfl | rfl | rfl | rfl)
    · exact c2.2
    · exact c3.2.1
    · exact c4.2
    · exact c5.2
  · rintro i k (rfl | rfl | rfl | rfl) (rfl | rfl | rfl | rfl) h
    · exact absurd rfl h
    · exact ⟨d1, e1⟩
    · exact ⟨d2, e2⟩
    · exact ⟨d3, e3⟩
    · exact ⟨d1.symm, fun q => q.trans (e1 q.symm)⟩
    · exact absurd rfl h
    · exact ⟨d4, e4⟩
    · exact ⟨d5, e5⟩
    · exact ⟨d2.symm, fun q => q.trans (e2 q.symm)⟩
    · exact ⟨d4.symm, fun q => q.trans (e4 q.symm)⟩
    · exact absurd rfl h
    · exact ⟨d6, e6⟩
    · exact ⟨d3.symm, fun q => q.trans (e3 q.symm)⟩
    · exact ⟨d5.symm, fun q => q.trans (e5 q.symm)⟩
    · exact ⟨d6.symm, fun q => q.trans (e6 q.symm)⟩
    · exact absurd rfl h
theorem CI.d3 (c : CI te a v w E Q W P O S M T) : cD3 a w E P O := by
  obtain ⟨c1, c2, c3, c4, c5, c6, c7, c8, c9, c10, c11, c12, -, -, d⟩ := c
  exact d
theorem CI.asm (re : cRe a w E P O S M T) (L : L4 te a v S (nn Q W P O) (ff M w)) (hq : Q ≤ 20 ∧ M 8 0 = nI Q) (hw : W ≤ 30 ∧ M 11 0 = nI W) (hp : P ≤ 60 ∧ M 21 0 = nI P) (ho : O ≤ 6 ∧ M 30 0 = nI O) (wt : ∀ i, i < W → S.2.2.2.1 8 (w 0 (M 12 i).toNatClampNeg) + 8 = M 13 i) (d3 : cD3 a w E P O) : CI te a v w E Q W P O S M T := by
  obtain ⟨c1, c6, c7, c8, c9, c10, c11, c12⟩ := re
  have l1 := L.1 1 (Or.inl rfl)
  have l2 := L.1 2 (Or.inr (Or.inl rfl))
  have l5 := L.1 5 (Or.inr (Or.inr (Or.inl rfl)))
  have l6 := L.1 6 (Or.inr (Or.inr (Or.inr rfl)))
  have g := fun i k hi hk hne => L.2 i k hi hk hne
  have I1 : LI 1 := Or.inl rfl
  have I2 : LI 2 := Or.inr (Or.inl rfl)
  have I5 : LI 5 := Or.inr (Or.inr (Or.inl rfl))
  have I6 : LI 6 := Or.inr (Or.inr (Or.inr rfl))
  exact ⟨c1, ⟨hq, l1⟩, ⟨hw, l2, wt⟩, ⟨hp, l5⟩, ⟨ho, l6⟩, c6, c7, c8, c9, c10, c11, c12, ⟨(g 1 2 I1 I2 (by decide)).1, (g 1 5 I1 I5 (by decide)).1, (g 1 6 I1 I6 (by decide)).1, (g 2 5 I2 I5 (by decide)).1, (g 2 6 I2 I6 (by decide)).1, (g 5 6 I5 I6 (by decide)).1⟩, ⟨(g 1 2 I1 I2 (by decide)).2, (g 1 5 I1 I5 (by decide)).2, (g 1 6 I1 I6 (by decide)).2, (g 2 5 I2 I5 (by decide)).2, (g 2 6 I2 I6 (by decide)).2, (g 5 6 I5 I6 (by decide)).2⟩, d3⟩
theorem LsA.c {p n e cap : Nat} {f g : Nat → Nat} (l : LsA te S p n e cap f) (h : ∀ i, i < n → g i = f i) : LsA te S p n e cap g := by
  obtain ⟨l1, l2, l3, l4, l5, l6⟩ := l
  exact ⟨l1, l2, l3, l4, l5, fun i hi => by rw [h i hi]; exact l6 i hi⟩
theorem L4.c {n n' : Nat → Nat} {f f' : Nat → Nat → Nat} (L : L4 te a v S n f) (hn : ∀ i, LI i → n' i = n i) (hf : ∀ i, LI i → ∀ k, k < n i → f' i k = f i k) : L4 te a v S n' f' :=
  ⟨fun i hi => by rw [hn i hi]; exact (L.1 i hi).c (hf i hi), L.2⟩
theorem Rx.l4 {n : Nat → Nat} {f : Nat → Nat → Nat} (h : Rx S S') (L : L4 te a v S n f) : L4 te a v S' n f := ⟨fun i hi => h.ls (L.1 i hi), L.2⟩
theorem LsA.ne {p n e cap x : Nat} {f : Nat → Nat} (l : LsA te S p n e cap f) (ht : te ∉ S.1) (hx : x ∈ S.1) (hk : S.2.1 x ≠ 10) : x ≠ e := fun q => by
  rcases l.2.2.2.2.1 with ⟨z, -⟩ | ⟨z, -⟩
  · exact ht (by rw [← z, ← q]; exact hx)
  · exact hk (by rw [q]; exact z.2)
theorem AddP.rp {p n e cap x e' cap' : Nat} {f : Nat → Nat} (l : LsA te S p n e cap f) (ht : te ∉ S.1) (h : AddP te S S' p n e cap x e' cap') : Rp S S' := fun y hy => by
  obtain ⟨h1, h2, h3, h4, h5, h6⟩ := h
  obtain ⟨b1, b2, b3, b4⟩ := h1 y hy
  exact ⟨b1, b2, b3, b4, fun q => h5 y hy (l.ne ht hy q), fun f q r => by rw [h2.1 f q r], fun f q => by rw [h3.1 f q], by rw [h4]⟩
theorem AddP.self {p n e cap x e' cap' : Nat} {f g : Nat → Nat} (l : LsA te S p n e cap f) (ht : te ∉ S.1) (h : AddP te S S' p n e cap x e' cap') (hx : El S x) (hc : cap' ≤ 1000) (hg : ∀ i, i < n → g i = f i) (hgn : g n = x) : LsA te S' p (n + 1) e' cap' g := by
  have rp := h.rp l ht
  obtain ⟨h1, h2, h3, h4, h5, h6, h7, h8, h9⟩ := h
  obtain ⟨l1, l2, l3, l4, l5, l6⟩ := l
  have hcap : n < cap' := by
    rcases h7 with ⟨-, z, z2⟩ | ⟨-, z, z2⟩
    · omega
    · have := (ncap_le (c := cap) l4.2).1
      omega
  refine ⟨rp.is l1, ?_, ?_, ⟨hcap, hc⟩, Or.inr ⟨h6.1, h6.2, by omega⟩, fun i hi => ?_⟩
  · rw [h2.2]; exact if_pos rfl
  · rw [h3.2]; exact va_up_self _ _ _
  · by_cases q : i = n
    · rw [q, hgn]; exact ⟨h9, rp.el hx⟩
    · rw [h8 i (by omega), hg i (by omega)]
      exact ⟨(l6 i (by omega)).1, rp.el (l6 i (by omega)).2⟩
theorem AddP.oth {p n e cap x e' cap' p2 n2 e2 cap2 : Nat} {f f2 : Nat → Nat} (l : LsA te S p n e cap f) (ht : te ∉ S.1) (h : AddP te S S' p n e cap x e' cap') (l2 : LsA te S p2 n2 e2 cap2 f2) (hne : p2 ≠ p) (he : e2 = e → e2 = te) : LsA te S' p2 n2 e2 cap2 f2 := by
  have rp := h.rp l ht
  obtain ⟨h1, h2, h3, h4, h5, h6, h7, h8, h9⟩ := h
  obtain ⟨k1, k2, k3, k4, k5, k6⟩ := l2
  refine ⟨rp.is k1, ?_, ?_, k4, ?_, fun i hi => ⟨?_, rp.el (k6 i hi).2⟩⟩
  · rw [h2.2]; exact (if_neg hne).trans k2
  · rw [h3.2]; exact (va_up_ne _ _ hne).trans k3
  · rcases k5 with z | ⟨z1, z2, z3⟩
    · exact Or.inl z
    · exact Or.inr ⟨rp.is z1, (h1 e2 z1.1).2.2.1.trans z2, z3⟩
  · rcases k5 with z | ⟨z1, z2, z3⟩
    · exact absurd hi (by omega)
    · rw [h5 e2 z1.1 (fun q => ht (by rw [← he q]; exact z1.1))]; exact (k6 i hi).1
theorem AddP.di {p n e cap x e' cap' p2 n2 e2 cap2 : Nat} {f2 : Nat → Nat} (h : AddP te S S' p n e cap x e' cap') (l2 : LsA te S p2 n2 e2 cap2 f2) (he : e = e2 → e = te) : e' = e2 → e' = te := fun q => by
  obtain ⟨h1, h2, h3, h4, h5, h6, h7, h8, h9⟩ := h
  rcases h7 with ⟨z, -⟩ | ⟨z, -⟩
  · rw [z] at q ⊢; exact he q
  · rcases l2.2.2.2.2.1 with ⟨u, -⟩ | ⟨u, -⟩
    · rw [q, u]
    · exact absurd (by rw [q]; exact u.1) z
theorem LI_n {i k : Nat} (hi : LI i) (hk : LI k) : ¬ k = 10 + i ∧ ¬ 10 + k = i := by
  rcases hi with rfl | rfl | rfl | rfl <;> rcases hk with rfl | rfl | rfl | rfl <;> decide
theorem vu_i {v : Nat → Nat} {i e c : Nat} : vu v i e c i = e := if_pos rfl
theorem vu_c {v : Nat → Nat} {i e c : Nat} : vu v i e c (10 + i) = c := by
  unfold vu; rw [if_neg (by omega), if_pos rfl]
theorem vu_o {v : Nat → Nat} {i k e c : Nat} (hi : LI i) (hk : LI k) (h : k ≠ i) : vu v i e c k = v k := by
  unfold vu; rw [if_neg h, if_neg (LI_n hi hk).1]
theorem vu_oc {v : Nat → Nat} {i k e c : Nat} (hi : LI i) (hk : LI k) (h : k ≠ i) : vu v i e c (10 + k) = v (10 + k) := by
  unfold vu; rw [if_neg (LI_n hi hk).2, if_neg (by omega)]
theorem L4.add {n n' : Nat → Nat} {f f' : Nat → Nat → Nat} (L : L4 te a v S n f) {i x e' cap' : Nat} (hi : LI i) (ht : te ∉ S.1) (ap : AddP te S S' (a i) (n i) (v i) (v (10 + i)) x e' cap') (hx : El S x) (hc : cap' ≤ 1000) (hn : n' i = n i + 1) (hf : ∀ k, k < n i → f' i k = f i k) (hfn : f' i (n i) = x) (hno : ∀ k, LI k → k ≠ i → n' k = n k) (hfo : ∀ k, LI k → k ≠ i → ∀ m, m < n k → f' k m = f k m) : L4 te a (vu v i e' cap') S' n' f' := by
  refine ⟨fun k hk => ?_, fun k m hk hm hne => ?_⟩
  · by_cases q : k = i
    · subst q
      rw [vu_i, vu_c, hn]
      exact ap.self (L.1 k hk) ht hx hc hf hfn
    · rw [vu_o hi hk q, vu_oc hi hk q, hno k hk q]
      exact (ap.oth (L.1 i hi) ht (L.1 k hk) (L.2 k i hk hi q).1 (L.2 k i hk hi q).2).c (hfo k hk q)
  · refine ⟨(L.2 k m hk hm hne).1, ?_⟩
    by_cases q : k = i
    · subst q
      rw [vu_i, vu_o hi hm (fun z => hne z.symm)]
      exact ap.di (L.1 m hm) (L.2 k m hk hm hne).2
    · by_cases q2 : m = i
      · subst q2
        rw [vu_i, vu_o hi hk q]
        exact fun z => z.trans (ap.di (L.1 k hk) (fun y => y.trans ((L.2 k m hk hm hne).2 y.symm)) z.symm)
      · rw [vu_o hi hk q, vu_o hi hm q2]
        exact (L.2 k m hk hm hne).2
theorem RemP.rp {p n e cap : Nat} {f : Nat → Nat} (l : LsA te S p n e cap f) (ht : te ∉ S.1) (h : RemP S S' p n e) : Rp S S' := fun y hy => by
  obtain ⟨h1, h2, h3, h4, h5, h6, h7, h8, h9⟩ := h
  exact ⟨by rw [h1]; exact hy, by rw [h2], by rw [h3], by rw [h7], fun q => h8 y (l.ne ht hy q), fun f q r => by rw [h4.1 f q r], fun f q => by rw [h5], by rw [h6]⟩
theorem L4.rem {n n' : Nat → Nat} {f f' : Nat → Nat → Nat} (L : L4 te a v S n f) {i : Nat} (hi : LI i) (ht : te ∉ S.1) (ap : RemP S S' (a i) (n i) (v i)) (h0 : 0 < n i) (hn : n' i = n i - 1) (hf : ∀ k, k < n i - 1 → f' i k = f i (k + 1)) (hno : ∀ k, LI k → k ≠ i → n' k = n k) (hfo : ∀ k, LI k → k ≠ i → ∀ m, m < n k → f' k m = f k m) : L4 te a v S' n' f' := by
  have rp := ap.rp (L.1 i hi) ht
  obtain ⟨h1, h2, h3, h4, h5, h6, h7, h8, h9⟩ := ap
  refine ⟨fun k hk => ?_, L.2⟩
  obtain ⟨l1, l2, l3, l4, l5, l6⟩ := L.1 k hk
  by_cases q : k = i
  · subst q
    refine ⟨rp.is l1, ?_, by rw [h5]; exact l3, ⟨by omega, l4.2⟩, ?_, fun m hm => ?_⟩
    · rw [h4.2, hn]; exact if_pos rfl
    · rcases l5 with z | ⟨z1, z2, z3⟩
      · exact Or.inl z
      · exact Or.inr ⟨rp.is z1, by rw [h3]; exact z2, z3⟩
    · rw [hn] at hm
      rw [h9 m hm, hf m hm]
      exact ⟨(l6 (m + 1) (by omega)).1, rp.el (l6 (m + 1) (by omega)).2⟩
  · rw [hno k hk q]
    refine LsA.c (f := f k) ⟨rp.is l1, ?_, by rw [h5]; exact l3, l4, ?_, fun m hm => ⟨?_, rp.el (l6 m hm).2⟩⟩ (hfo k hk q)
    · rw [h4.2]; exact (if_neg (L.2 k i hk hi q).1).trans l2
    · rcases l5 with z | ⟨z1, z2, z3⟩
      · exact Or.inl z
      · exact Or.inr ⟨rp.is z1, by rw [h3]; exact z2, z3⟩
    · rcases l5 with z | ⟨z1, z2, z3⟩
      · exact absurd hm (by omega)
      · rw [h8 (v k) (fun y => ht (by rw [← (L.2 k i hk hi q).2 y]; exact z1.1))]; exact (l6 m hm).1
/-- the lists' places are such as they grow to -/
def CapOK (v : Nat → Nat) : Prop := (v 11 = 0 ∨ v 11 = 10 ∨ v 11 = 15 ∨ v 11 = 22) ∧ (v 12 = 0 ∨ v 12 = 10 ∨ v 12 = 15 ∨ v 12 = 22 ∨ v 12 = 33) ∧ (v 15 = 0 ∨ v 15 = 10 ∨ v 15 = 15 ∨ v 15 = 22 ∨ v 15 = 33 ∨ v 15 = 49 ∨ v 15 = 73) ∧ (v 16 = 0 ∨ v 16 = 10)
theorem I1 : LI 1 := Or.inl rfl
theorem I2 : LI 2 := Or.inr (Or.inl rfl)
theorem I5 : LI 5 := Or.inr (Or.inr (Or.inl rfl))
theorem I6 : LI 6 := Or.inr (Or.inr (Or.inr rfl))
def wu (w : Nat → Nat → Nat) (g i x : Nat) : Nat → Nat → Nat := fun h k => if h = g then if k = i then x else w h k else w h k
theorem wu_e {w : Nat → Nat → Nat} {g i x : Nat} : wu w g i x g i = x := by unfold wu; rw [if_pos rfl, if_pos rfl]
theorem wu_o {w : Nat → Nat → Nat} {g i k x : Nat} (h : k ≠ i) : wu w g i x g k = w g k := by unfold wu; rw [if_pos rfl, if_neg h]
theorem wu_n {w : Nat → Nat → Nat} {g h i x : Nat} (q : h ≠ g) : wu w g i x h = w h := by
  funext k; unfold wu; rw [if_neg q]
def ordM (M : Nat → Nat → Int32) (O : Nat) (g n y : Int32) : Nat → Nat → Int32 := up2 (up2 (up2 (up2 (up2 M 31 O g) 32 O n) 33 O y) 34 O 0) 30 0 (M 30 0 + 1)
theorem CI.ord (c : CI te a v w E Q W P O S M T) {q : Nat} (hq : q ∉ S.1) {g n y : Int32} (hO : O < 6) (ht : te ∉ (nO S q 1).1) {e' cap' : Nat} (ap : AddP te (ordS (nO S q 1) q g n y) S' (a 6) O (v 6) (v 16) q e' cap') (hc : cap' ≤ 1000) : CI te a (vu v 6 e' cap') (wu w 3 O q) E Q W P (O + 1) S' (ordM M O g n y) T := by
  have rx : Rx S (ordS (nO S q 1) q g n y) := (((Rx.new hq).uI hq).uI hq).uI hq
  have hqi : Is (ordS (nO S q 1) q g n y) q 1 := Is.new
  have L := rx.l4 c.l4
  have rp : Rp (ordS (nO S q 1) q g n y) S' := ap.rp (L.1 6 I6) ht
  have re := (rx.rp.t rp).re c.re
  have d3 := c.d3
  have oo := c.2.2.2.2.2.2.2.2.2.2.1
  obtain ⟨c1, c2, c3, c4, c5, c6, c7, c8⟩ := re
  obtain ⟨-, -, -, -, -, yI, -, -⟩ := rp q hqi.1
  refine CI.asm ⟨c1, c2, c3, c4.c (N := ordM M O g n y) rfl rfl rfl rfl rfl rfl, c5, c6, fun o ho => ?_, c8⟩ (L.add I6 ht ap (Or.inr (Or.inl hqi)) hc rfl ?_ ?_ ?_ ?_) c.2.1.1 c.2.2.1.1 c.2.2.2.1.1 ⟨by omega, ?_⟩ (fun i hi => ?_) ⟨d3.1, d3.2.1, d3.2.2.1, d3.2.2.2.1, d3.2.2.2.2.1, d3.2.2.2.2.2.1, fun o u ho hu => ?_⟩
  · by_cases h : o = O
    · subst h
      show Is S' (wu w 3 o q 3 o) 1 ∧ S'.2.2.2.1 10 (wu w 3 o q 3 o) = upd (M 31) o g o ∧ S'.2.2.2.1 11 (wu w 3 o q 3 o) = upd (M 32) o n o ∧ S'.2.2.2.1 12 (wu w 3 o q 3 o) = upd (M 33) o y o ∧ S'.2.2.2.1 13 (wu w 3 o q 3 o) = upd (M 34) o 0 o
      rw [wu_e, yI 10 (by decide) (by decide), yI 11 (by decide) (by decide), yI 12 (by decide) (by decide), yI 13 (by decide) (by decide)]
      unfold upd
      rw [if_pos rfl, if_pos rfl, if_pos rfl, if_pos rfl]
      refine ⟨rp.is hqi, ?_, ?_, ?_, ?_⟩
      · show up2 (up2 (up2 (zI S.2.2.2.1 q) 10 q g) 11 q n) 12 q y 10 q = g
        rw [up2_n (by decide), up2_n (by decide), up2_e]
      · show up2 (up2 (up2 (zI S.2.2.2.1 q) 10 q g) 11 q n) 12 q y 11 q = n
        rw [up2_n (by decide), up2_e]
      · show up2 (up2 (up2 (zI S.2.2.2.1 q) 10 q g) 11 q n) 12 q y 12 q = y
        rw [up2_e]
      · show up2 (up2 (up2 (zI S.2.2.2.1 q) 10 q g) 11 q n) 12 q y 13 q = 0
        rw [up2_n (by decide), up2_n (by decide), up2_n (by decide)]
        exact if_pos rfl
    · show Is S' (wu w 3 O q 3 o) 1 ∧ S'.2.2.2.1 10 (wu w 3 O q 3 o) = upd (M 31) O g o ∧ S'.2.2.2.1 11 (wu w 3 O q 3 o) = upd (M 32) O n o ∧ S'.2.2.2.1 12 (wu w 3 O q 3 o) = upd (M 33) O y o ∧ S'.2.2.2.1 13 (wu w 3 O q 3 o) = upd (M 34) O 0 o
      rw [wu_o h, upd_o h, upd_o h, upd_o h, upd_o h]
      exact c7 o (by omega)
  · intro k hk
    show wu w 3 O q 3 k = w 3 k
    exact wu_o (show k ≠ O from Nat.ne_of_lt hk)
  · exact (show wu w 3 O q 3 O = q from wu_e)
  · rintro k (rfl | rfl | rfl | rfl) h
    · rfl
    · rfl
    · rfl
    · exact absurd rfl h
  · rintro k (rfl | rfl | rfl | rfl) h m hm
    · rfl
    · rfl
    · rfl
    · exact absurd rfl h
  · show upd (M 30) 0 (M 30 0 + 1) 0 = nI (O + 1)
    unfold upd
    rw [if_pos rfl, c.2.2.2.2.1.1.2, nI_1]
  · have hl := (c.2.2.1.2.1.2.2.2.2.2 i hi).2
    have hin : w 0 (M 12 i).toNatClampNeg ∈ S.1 := by rcases hl with z | z | z <;> exact z.1
    show S'.2.2.2.1 8 (w 0 (M 12 i).toNatClampNeg) + 8 = M 13 i
    rw [((rx.rp.t rp) _ hin).2.2.2.2.2.1 8 (by decide) (by decide)]
    exact c.2.2.1.2.2 i hi
  · show wu w 3 O q 3 o = wu w 3 O q 3 u → o = u
    by_cases h1 : o = O
    · by_cases h2 : u = O
      · exact fun _ => h1.trans h2.symm
      · rw [h1, wu_e, wu_o h2]
        exact fun z => absurd (by rw [z]; exact (oo u (by omega)).1.1) hq
    · by_cases h2 : u = O
      · rw [h2, wu_e, wu_o h1]
        exact fun z => absurd (by rw [← z]; exact (oo o (by omega)).1.1) hq
      · rw [wu_o h1, wu_o h2]
        exact d3.2.2.2.2.2.2 o u (by omega) (by omega)
end C27
section C27b
variable {D : va_G} {ar : Nat → ClassId} {tg te mi : Nat} {S : CS}
variable {a v : Nat → Nat} {w : Nat → Nat → Nat} {E Q W P O : Nat} {M : Nat → Nat → Int32} {T : Int64}
set_option maxRecDepth 100000 in
theorem k_X4_order (ci : CI te a v w E Q W P O S M T) (cp : CapOK v) (g n y : Int32)  : Cn D ar (XC tg te mi) yX4_order cX4_order 4 (some .int) 7 185 2 14 [.ref (a 0), .int g, .int n, .int y] (cW ar S) (fun r w9 => r = some (.int (ordA M O g n y).2) ∧ ∃ (S' : CS) (v' : Nat → Nat) (w' : Nat → Nat → Nat) (O' : Nat), w9 = cW ar S' ∧ CI te a v' w' E Q W P O' S' (ordA M O g n y).1 T ∧ CapOK v') := by
  refine Cn.of (own := RX4) XC_ok (by decide) rfl (Nat.le_of_ble_eq_true rfl) (fun j C => ?_)
  have C0 := C.to
  show j _ 0 0 0 [(0, _), (1, _), (2, _), (3, _)] []
  have hs := ci.1
  have pk := ci.2.2.2.1
  have pa := ci.2.2.2.2.2.2.2.2.1
  have pr := ci.2.2.2.2.2.2.1
  have tr := ci.2.2.2.2.2.2.2.1
  have od := ci.2.2.2.2.1
  have oo := ci.2.2.2.2.2.2.2.2.2.2.1
  have hO6 := od.1.1
  refine r_iload_n C0 0 1 dX4_order_0 rfl rfl ?_
  refine s_call (As := [.int _]) C0 1 1 (k_X4_isGrade XC_ok _ _) (rm_X4_isGrade (by decide) (by decide) (Nat.le_of_ble_eq_true rfl) (Nat.le_of_ble_eq_true rfl)) mlX4_81 st_X4_isGrade rfl (Nat.le_of_ble_eq_true rfl) dX4_order_1 ?_
  rintro _ _ ⟨rfl, rfl⟩
  refine r_if_eq C0 4 28 dX4_order_4 (by decide) (fun c_4 => ?_) (fun c_4 => ?_)
  · refine r_iconst C0 28 (-1) dX4_order_28 (by decide) ?_
    refine r_iret C 29 dX4_order_29 (Nat.le_of_ble_eq_true rfl) (Nat.le_of_ble_eq_true rfl) ?_
    exact ⟨by simp only [ordA, eq_true c_4]; rfl, S, v, w, O, rfl, by simp only [ordA, eq_true c_4]; exact ci, cp⟩
  · refine r_iload_n C0 7 2 dX4_order_7 rfl rfl ?_
    refine r_iconst C0 8 1 dX4_order_8 (by decide) ?_
    refine r_bipush C0 9 9 dX4_order_9 (by decide) ?_
    refine s_call (As := [.int _, .int _, .int _]) C0 11 3 (k_X4_isWithin XC_ok _ _ _ _) (rm_X4_isWithin (by decide) (by decide) (Nat.le_of_ble_eq_true rfl) (Nat.le_of_ble_eq_true rfl)) mlX4_49 st_X4_isWithin rfl (Nat.le_of_ble_eq_true rfl) dX4_order_11 ?_
    rintro _ _ ⟨rfl, rfl⟩
    refine r_if_eq C0 14 28 dX4_order_14 (by decide) (fun c_14 => ?_) (fun c_14 => ?_)
    · refine r_iconst C0 28 (-1) dX4_order_28 (by decide) ?_
      refine r_iret C 29 dX4_order_29 (Nat.le_of_ble_eq_true rfl) (Nat.le_of_ble_eq_true rfl) ?_
      exact ⟨by simp only [ordA, eq_false c_4, eq_true c_14]; rfl, S, v, w, O, rfl, by simp only [ordA, eq_false c_4, eq_true c_14]; exact ci, cp⟩
    · refine r_iload_n C0 17 3 dX4_order_17 rfl rfl ?_
      refine r_iconst C0 18 1 dX4_order_18 (by decide) ?_
      refine r_sipush C0 19 1000 dX4_order_19 (by decide) ?_
      refine s_call (As := [.int _, .int _, .int _]) C0 22 3 (k_X4_isWithin XC_ok _ _ _ _) (rm_X4_isWithin (by decide) (by decide) (Nat.le_of_ble_eq_true rfl) (Nat.le_of_ble_eq_true rfl)) mlX4_49 st_X4_isWithin rfl (Nat.le_of_ble_eq_true rfl) dX4_order_22 ?_
      rintro _ _ ⟨rfl, rfl⟩
      refine r_if_ne C0 25 30 dX4_order_25 (by decide) (fun c_25 => ?_) (fun c_25 => ?_)
      · refine r_aload_n C0 30 0 dX4_order_30 rfl rfl ?_
        refine cgR_6 C0 31 hs.2.1.2.2.2.2.2.1 flX4_34 hs.1 dX4_order_31 ?_
        refine c_call (As := []) C0 34 0 (k_Jx4a65c_size_8abf5 XC_ok od.2.1) (rm_Jx4a65c_size_8abf5 (by decide) (by decide) (Nat.le_of_ble_eq_true rfl) (Nat.le_of_ble_eq_true rfl)) mlX4_53 im_Jx4a65c_size_8abf5 se_Jx4a65c_size_8abf5 (by decide) rfl od.2.1 rfl (Nat.le_of_ble_eq_true rfl) dX4_order_34 ?_
        rintro _ _ ⟨rfl, rfl⟩
        rw [od.2.2.1]
        refine r_bipush C0 37 6 dX4_order_37 (by decide) ?_
        refine r_icmp_lt C0 39 45 dX4_order_39 (by decide) (fun c_39 => ?_) (fun c_39 => ?_)
        · have hO : O < 6 := Nat.lt_of_not_le (fun z => absurd (nI_le (a := 6) z (by omega)) (Int32.not_le.mpr c_39))
          refine r_aload_n C0 45 0 dX4_order_45 rfl rfl ?_
          refine cgR_6 C0 46 hs.2.1.2.2.2.2.2.1 flX4_34 hs.1 dX4_order_46 ?_
          refine ca_new1 C0 49 clX4_163 (Nat.le_of_ble_eq_true rfl) (Nat.le_of_ble_eq_true rfl) dX4_order_49 (fun q hq => ?_)
          refine r_dup C0 52 dX4_order_52 rfl ?_
          refine r_iload_n C0 53 1 dX4_order_53 rfl rfl ?_
          refine r_iload_n C0 54 2 dX4_order_54 rfl rfl ?_
          refine r_iload_n C0 55 3 dX4_order_55 rfl rfl ?_
          refine c_init (As := [.int _, .int _, .int _]) C0 56 3 (k_X1_init XC_ok Is.new _ _ _) (rm_X1_init (by decide) (by decide) (Nat.le_of_ble_eq_true rfl) (Nat.le_of_ble_eq_true rfl)) mlX4_165 im_X1_init rfl rfl (Nat.le_of_ble_eq_true rfl) dX4_order_56 ?_
          rintro _ _ ⟨rfl, rfl⟩
          refine ca_teN C0 (fun hte => ?_)
          have rx : Rx S (ordS (nO S q 1) q g n y) := (((Rx.new hq).uI hq).uI hq).uI hq
          have hqi : Is (ordS (nO S q 1) q g n y) q 1 := Is.new
          have L := rx.l4 ci.l4
          have hA : ordA M O g n y = (ordM M O g n y, M 30 0 + 1 - 1) := by
            unfold ordA
            rw [if_neg c_4, if_neg c_14, if_neg c_25, if_neg (by rw [od.1.2]; exact fun z => absurd ((nI_eq (b := 6) (by omega) (by omega)).mp z) (by omega))]
            rfl
          by_cases hf : O < v 16
          · refine c_call (As := [.ref _]) C0 59 1 (k_addR (L.1 6 I6) hf (Or.inr (Or.inl hqi))) (rm_Jx4a65c_add_9ea2d (by decide) (by decide) (Nat.le_of_ble_eq_true rfl) (Nat.le_of_ble_eq_true rfl)) mlX4_64 im_Jx4a65c_add_9ea2d se_Jx4a65c_add_9ea2d (by decide) rfl (L.1 6 I6).1 rfl (Nat.le_of_ble_eq_true rfl) dX4_order_59 ?_
            rintro _ _ ⟨rfl, S3, e', cap', rfl, ap⟩
            have hcc : cap' = v 16 := by
              rcases ap.2.2.2.2.2.2.1 with ⟨-, z, -⟩ | ⟨-, z, -⟩
              · exact z
              · exact absurd hf (by have z2 : O = v 16 := z; omega)
            have c2 := ci.ord hq (by omega) hte ap (by rw [hcc]; rcases cp.2.2.2 with z | z <;> omega)
            refine r_pop C0 62 dX4_order_62 rfl ?_
            refine r_aload_n C0 63 0 dX4_order_63 rfl rfl ?_
            refine cgR_6 C0 64 c2.1.2.1.2.2.2.2.2.1 flX4_34 c2.1.1 dX4_order_64 ?_
            refine c_call (As := []) C0 67 0 (k_Jx4a65c_size_8abf5 XC_ok c2.2.2.2.2.1.2.1) (rm_Jx4a65c_size_8abf5 (by decide) (by decide) (Nat.le_of_ble_eq_true rfl) (Nat.le_of_ble_eq_true rfl)) mlX4_53 im_Jx4a65c_size_8abf5 se_Jx4a65c_size_8abf5 (by decide) rfl c2.2.2.2.2.1.2.1 rfl (Nat.le_of_ble_eq_true rfl) dX4_order_67 ?_
            rintro _ _ ⟨rfl, rfl⟩
            refine r_iconst C0 70 1 dX4_order_70 (by decide) ?_
            refine r_isub C0 71 dX4_order_71 ?_
            refine r_iret C 72 dX4_order_72 (Nat.le_of_ble_eq_true rfl) (Nat.le_of_ble_eq_true rfl) ?_
            rw [hA]
            exact ⟨by rw [c2.2.2.2.2.1.2.2.1, od.1.2, nI_1], S3, _, _, _, rfl, c2, ⟨cp.1, cp.2.1, cp.2.2.1, by rw [show vu v 6 e' cap' 16 = cap' from rfl, hcc]; exact cp.2.2.2⟩⟩
          · have h16 : v 16 = 0 ∧ O = 0 := by
              have := od.2.2.2.2.1.1
              rcases cp.2.2.2 with z | z <;> omega
            have hcap : ncap (v 16) = 10 := by rw [h16.1]; rfl
            have Lf : LsA te (ordS (nO S q 1) q g n y) (a 6) (v 16) (v 6) (v 16) (w 3) := by
              have l := L.1 6 I6
              rw [show nn Q W P O 6 = v 16 by rw [h16.1]; exact h16.2] at l
              exact l
            refine c_call (As := [.ref _]) C0 59 1 (k_addF Lf (Or.inr (Or.inl hqi))) (rm_Jx4a65c_add_9ea2d (by decide) (by decide) (Nat.le_of_ble_eq_true rfl) (by rw [hcap]; exact (Nat.le_of_ble_eq_true rfl))) mlX4_64 im_Jx4a65c_add_9ea2d se_Jx4a65c_add_9ea2d (by decide) rfl (L.1 6 I6).1 rfl (Nat.le_of_ble_eq_true rfl) dX4_order_59 ?_
            rintro _ _ ⟨rfl, S3, e', cap', rfl, ap⟩
            rw [hcap]
            have hcc : cap' = 10 := by
              rcases ap.2.2.2.2.2.2.1 with ⟨-, -, z⟩ | ⟨-, -, z⟩
              · omega
              · exact z.trans hcap
            have c2 := ci.ord hq (by omega) hte (show AddP te (ordS (nO S q 1) q g n y) S3 (a 6) O (v 6) (v 16) q e' cap' by rw [h16.2.trans h16.1.symm]; exact ap) (by omega)
            refine r_pop C0 62 dX4_order_62 rfl ?_
            refine r_aload_n C0 63 0 dX4_order_63 rfl rfl ?_
            refine cgR_6 C0 64 c2.1.2.1.2.2.2.2.2.1 flX4_34 c2.1.1 dX4_order_64 ?_
            refine c_call (As := []) C0 67 0 (k_Jx4a65c_size_8abf5 XC_ok c2.2.2.2.2.1.2.1) (rm_Jx4a65c_size_8abf5 (by decide) (by decide) (Nat.le_of_ble_eq_true rfl) (Nat.le_of_ble_eq_true rfl)) mlX4_53 im_Jx4a65c_size_8abf5 se_Jx4a65c_size_8abf5 (by decide) rfl c2.2.2.2.2.1.2.1 rfl (Nat.le_of_ble_eq_true rfl) dX4_order_67 ?_
            rintro _ _ ⟨rfl, rfl⟩
            refine r_iconst C0 70 1 dX4_order_70 (by decide) ?_
            refine r_isub C0 71 dX4_order_71 ?_
            refine r_iret C 72 dX4_order_72 (Nat.le_of_ble_eq_true rfl) (Nat.le_of_ble_eq_true rfl) ?_
            rw [hA]
            exact ⟨by rw [c2.2.2.2.2.1.2.2.1, od.1.2, nI_1], S3, _, _, _, rfl, c2, ⟨cp.1, cp.2.1, cp.2.2.1, Or.inr hcc⟩⟩
        · have hO : O = 6 := by
            have : ¬ O < 6 := fun z => c_39 (nI_lt (b := 6) z (by omega))
            omega
          have e6 : M 30 0 = 6 := by rw [od.1.2, hO]; rfl
          refine r_bipush C0 42 (-3) dX4_order_42 (by decide) ?_
          refine r_iret C 44 dX4_order_44 (Nat.le_of_ble_eq_true rfl) (Nat.le_of_ble_eq_true rfl) ?_
          exact ⟨by simp only [ordA, eq_false c_4, eq_false c_14, eq_false c_25, eq_false c_39, if_pos e6]; rfl, S, v, w, O, rfl, by simp only [ordA, eq_false c_4, eq_false c_14, eq_false c_25, eq_false c_39, if_pos e6]; exact ci, cp⟩
      · refine r_iconst C0 28 (-1) dX4_order_28 (by decide) ?_
        refine r_iret C 29 dX4_order_29 (Nat.le_of_ble_eq_true rfl) (Nat.le_of_ble_eq_true rfl) ?_
        exact ⟨by simp only [ordA, eq_false c_4, eq_false c_14, eq_true c_25]; rfl, S, v, w, O, rfl, by simp only [ordA, eq_false c_4, eq_false c_14, eq_true c_25]; exact ci, cp⟩
end C27b
