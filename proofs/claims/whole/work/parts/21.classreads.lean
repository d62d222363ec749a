/-! the tie between the class's heap S and the model's numbers M: addresses a (fixed), v (the lists' arrays and their places), w (eggs, packs, trays, orders) -/
def cHs (a : Nat → Nat) (S : CS) (M : Nat → Nat → Int32) (T : Int64) : Prop := Is S (a 0) 4 ∧ (S.2.2.2.2.1 1 (a 0) = some (a 1) ∧ S.2.2.2.2.1 2 (a 0) = some (a 2) ∧ S.2.2.2.2.1 3 (a 0) = some (a 3) ∧ S.2.2.2.2.1 4 (a 0) = some (a 4) ∧ S.2.2.2.2.1 5 (a 0) = some (a 5) ∧ S.2.2.2.2.1 6 (a 0) = some (a 6) ∧ S.2.2.2.2.1 7 (a 0) = some (a 7)) ∧ S.2.2.2.1 40 (a 0) = M 35 0 ∧ S.2.2.2.1 41 (a 0) = M 36 0 ∧ S.2.2.2.1 42 (a 0) = M 14 0 ∧ S.2.2.2.2.2.1 (a 0) = T
def cQu (te : Nat) (a v : Nat → Nat) (w : Nat → Nat → Nat) (Q : Nat) (S : CS) (M : Nat → Nat → Int32) : Prop := (Q ≤ 20 ∧ M 8 0 = nI Q) ∧ LsA te S (a 1) Q (v 1) (v 11) (fun i => w 0 (M 9 i).toNatClampNeg)
def cWa (te : Nat) (a v : Nat → Nat) (w : Nat → Nat → Nat) (W : Nat) (S : CS) (M : Nat → Nat → Int32) : Prop := (W ≤ 30 ∧ M 11 0 = nI W) ∧ LsA te S (a 2) W (v 2) (v 12) (fun i => w 0 (M 12 i).toNatClampNeg) ∧ ∀ i, i < W → S.2.2.2.1 8 (w 0 (M 12 i).toNatClampNeg) + 8 = M 13 i
def cPk (te : Nat) (a v : Nat → Nat) (w : Nat → Nat → Nat) (P : Nat) (S : CS) (M : Nat → Nat → Int32) : Prop := (P ≤ 60 ∧ M 21 0 = nI P) ∧ LsA te S (a 5) P (v 5) (v 15) (w 1)
def cOr (te : Nat) (a v : Nat → Nat) (w : Nat → Nat → Nat) (O : Nat) (S : CS) (M : Nat → Nat → Int32) : Prop := (O ≤ 6 ∧ M 30 0 = nI O) ∧ LsA te S (a 6) O (v 6) (v 16) (w 3)
def cLn (a : Nat → Nat) (w : Nat → Nat → Nat) (S : CS) (M : Nat → Nat → Int32) : Prop := Is S (a 3) 8 ∧ S.2.2.1 (a 3) = 16 ∧ ∀ k, k < 16 → S.2.2.2.2.2.2.2 (a 3) k = if M 10 k = 0 then none else some (w 0 (eN M k))
def cPr (a : Nat → Nat) (w : Nat → Nat → Nat) (S : CS) (M : Nat → Nat → Int32) : Prop := Is S (a 4) 9 ∧ S.2.2.1 (a 4) = 4 ∧ ∀ p, p < 4 → S.2.2.2.2.2.2.2 (a 4) p = some (a (20 + p)) ∧ Is S (a (20 + p)) 3 ∧ S.2.2.2.1 30 (a (20 + p)) = nI (8 + 2 * p) ∧ S.2.2.2.1 31 (a (20 + p)) = M 16 p ∧ S.2.2.2.1 32 (a (20 + p)) = (if M 17 p = 0 then 1 else 0) ∧ S.2.2.2.1 33 (a (20 + p)) = M 18 p ∧ S.2.2.2.2.1 0 (a (20 + p)) = some (w 2 p) ∧ Is S (w 2 p) 2
def cTr (w : Nat → Nat → Nat) (S : CS) (M : Nat → Nat → Int32) : Prop := ∀ p, p < 4 → S.2.2.2.1 21 (w 2 p) = M 19 p ∧ S.2.2.2.1 22 (w 2 p) = btsN M p (M 19 p).toNatClampNeg ∧ (0 < (M 19 p).toNatClampNeg → S.2.2.2.1 23 (w 2 p) = trF M p (M 19 p).toNatClampNeg ∧ S.2.2.2.1 24 (w 2 p) = trL M p (M 19 p).toNatClampNeg) ∧ ((M 19 p).toNatClampNeg = 0 → S.2.2.2.1 24 (w 2 p) = 0) ∧ S.2.2.2.1 25 (w 2 p) = trW M p (M 19 p).toNatClampNeg ∧ S.2.2.2.1 26 (w 2 p) = trT M p (M 19 p).toNatClampNeg ∧ S.2.2.2.1 27 (w 2 p) = -9 ∧ S.2.2.2.1 28 (w 2 p) = 0
def cPa (w : Nat → Nat → Nat) (P : Nat) (S : CS) (M : Nat → Nat → Int32) : Prop := ∀ i, i < P → Is S (w 1 i) 2 ∧ S.2.2.2.1 20 (w 1 i) = M 22 i ∧ S.2.2.2.1 22 (w 1 i) = M 23 i ∧ S.2.2.2.1 23 (w 1 i) = M 24 i ∧ S.2.2.2.1 24 (w 1 i) = M 25 i ∧ S.2.2.2.1 25 (w 1 i) = M 26 i ∧ S.2.2.2.1 26 (w 1 i) = M 27 i ∧ S.2.2.2.1 27 (w 1 i) = M 28 i ∧ S.2.2.2.1 28 (w 1 i) = M 29 i
def cEg (w : Nat → Nat → Nat) (E : Nat) (S : CS) (M : Nat → Nat → Int32) : Prop := ∀ e, e < E → Is S (w 0 e) 0 ∧ S.2.2.2.1 0 (w 0 e) = nI e ∧ S.2.2.2.1 1 (w 0 e) = M 1 e ∧ S.2.2.2.1 2 (w 0 e) = M 2 e ∧ S.2.2.2.1 3 (w 0 e) = M 3 e ∧ S.2.2.2.1 4 (w 0 e) = M 4 e ∧ S.2.2.2.1 5 (w 0 e) = M 5 e ∧ S.2.2.2.1 6 (w 0 e) = M 6 e ∧ S.2.2.2.1 7 (w 0 e) = M 7 e
def cOd (w : Nat → Nat → Nat) (O : Nat) (S : CS) (M : Nat → Nat → Int32) : Prop := ∀ o, o < O → Is S (w 3 o) 1 ∧ S.2.2.2.1 10 (w 3 o) = M 31 o ∧ S.2.2.2.1 11 (w 3 o) = M 32 o ∧ S.2.2.2.1 12 (w 3 o) = M 33 o ∧ S.2.2.2.1 13 (w 3 o) = M 34 o
def cBb (a : Nat → Nat) (S : CS) (M : Nat → Nat → Int32) : Prop := Is S (a 7) 11 ∧ S.2.2.1 (a 7) = 4 ∧ ∀ b, b < 4 → S.2.2.2.2.2.2.2 (a 7) b = some (a (10 + b)) ∧ Is S (a (10 + b)) 7 ∧ S.2.2.1 (a (10 + b)) = 5 ∧ S.2.2.2.2.2.2.1 (a (10 + b)) 0 = M 15 (16 + b) ∧ ∀ k, k < 4 → S.2.2.2.2.2.2.1 (a (10 + b)) (k + 1) = M 15 (4 * k + b)
/-- what is apart -/
def cDi (te : Nat) (a v : Nat → Nat) (w : Nat → Nat → Nat) (E P O : Nat) : Prop :=
  (a 1 ≠ a 2 ∧ a 1 ≠ a 5 ∧ a 1 ≠ a 6 ∧ a 2 ≠ a 5 ∧ a 2 ≠ a 6 ∧ a 5 ≠ a 6) ∧ ((v 1 = v 2 → v 1 = te) ∧ (v 1 = v 5 → v 1 = te) ∧ (v 1 = v 6 → v 1 = te) ∧ (v 2 = v 5 → v 2 = te) ∧ (v 2 = v 6 → v 2 = te) ∧ (v 5 = v 6 → v 5 = te)) ∧
  (∀ e f, e < E → f < E → w 0 e = w 0 f → e = f) ∧ (∀ i k, i < P → k < P → w 1 i = w 1 k → i = k) ∧ (∀ p q, p < 4 → q < 4 → w 2 p = w 2 q → p = q) ∧ (∀ i p, i < P → p < 4 → w 1 i ≠ w 2 p) ∧ (∀ p q, p < 4 → q < 4 → a (20 + p) = a (20 + q) → p = q) ∧ (∀ b c, b < 4 → c < 4 → a (10 + b) = a (10 + c) → b = c) ∧ (∀ o u, o < O → u < O → w 3 o = w 3 u → o = u)
def CI (te : Nat) (a v : Nat → Nat) (w : Nat → Nat → Nat) (E Q W P O : Nat) (S : CS) (M : Nat → Nat → Int32) (T : Int64) : Prop :=
  cHs a S M T ∧ cQu te a v w Q S M ∧ cWa te a v w W S M ∧ cPk te a v w P S M ∧ cOr te a v w O S M ∧ cLn a w S M ∧ cPr a w S M ∧ cTr w S M ∧ cPa w P S M ∧ cEg w E S M ∧ cOd w O S M ∧ cBb a S M ∧ cDi te a v w E P O
/-- more is there, nothing of the old has changed -/
def Ext (S S' : CS) : Prop := (∀ x, x ∈ S.1 → x ∈ S'.1 ∧ S'.2.1 x = S.2.1 x ∧ S'.2.2.1 x = S.2.2.1 x ∧ S'.2.2.2.2.2.2.1 x = S.2.2.2.2.2.2.1 x ∧ S'.2.2.2.2.2.2.2 x = S.2.2.2.2.2.2.2 x) ∧ S'.2.2.2.1 = S.2.2.2.1 ∧ S'.2.2.2.2.1 = S.2.2.2.2.1 ∧ S'.2.2.2.2.2.1 = S.2.2.2.2.2.1
theorem Ext.is {S S' : CS} {x kd : Nat} (h : Ext S S') (hx : Is S x kd) : Is S' x kd := ⟨(h.1 x hx.1).1, (h.1 x hx.1).2.1.trans hx.2⟩
theorem Ext.el {S S' : CS} {x : Nat} (h : Ext S S') (hx : El S x) : El S' x := hx.old (fun _ _ z => h.is z)
theorem Ext.ls {te : Nat} {S S' : CS} {p n e cap : Nat} {f : Nat → Nat} (h : Ext S S') (l : LsA te S p n e cap f) : LsA te S' p n e cap f := by
  obtain ⟨l1, l2, l3, l4, l5, l6⟩ := l
  refine ⟨h.is l1, by rw [h.2.1]; exact l2, by rw [h.2.2.1]; exact l3, l4, ?_, fun i hi => ⟨?_, h.el (l6 i hi).2⟩⟩
  · rcases l5 with z | ⟨z1, z2, z3⟩
    · exact Or.inl z
    · exact Or.inr ⟨h.is z1, (h.1 e z1.1).2.2.1.trans z2, z3⟩
  · rcases l5 with z | ⟨z1, z2, z3⟩
    · exact absurd hi (by omega)
    · rw [(h.1 e z1.1).2.2.2.2]; exact (l6 i hi).1
theorem Ext.ci {te : Nat} {a v : Nat → Nat} {w : Nat → Nat → Nat} {E Q W P O : Nat} {S S' : CS} {M : Nat → Nat → Int32} {T : Int64} (h : Ext S S') (c : CI te a v w E Q W P O S M T) : CI te a v w E Q W P O S' M T := by
  obtain ⟨c1, c2, c3, c4, c5, c6, c7, c8, c9, c10, c11, c12, c13⟩ := c
  have hI := h.2.1
  have hR := h.2.2.1
  have hJ := h.2.2.2
  refine ⟨⟨h.is c1.1, by rw [hR]; exact c1.2.1, by rw [hI, hJ]; exact c1.2.2⟩, ⟨c2.1, h.ls c2.2⟩, ⟨c3.1, h.ls c3.2.1, by rw [hI]; exact c3.2.2⟩, ⟨c4.1, h.ls c4.2⟩, ⟨c5.1, h.ls c5.2⟩, ⟨h.is c6.1, (h.1 _ c6.1.1).2.2.1.trans c6.2.1, by rw [(h.1 _ c6.1.1).2.2.2.2]; exact c6.2.2⟩, ⟨h.is c7.1, (h.1 _ c7.1.1).2.2.1.trans c7.2.1, fun p hp => ?_⟩, ?_, fun i hi => ?_, fun e he => ?_, fun o ho => ?_, ⟨h.is c12.1, (h.1 _ c12.1.1).2.2.1.trans c12.2.1, fun b hb => ?_⟩, c13⟩
  · obtain ⟨d1, d2, d3, d4, d5, d6, d7, d8⟩ := c7.2.2 p hp
    rw [(h.1 _ c7.1.1).2.2.2.2, hI, hR]
    exact ⟨d1, h.is d2, d3, d4, d5, d6, d7, h.is d8⟩
  · unfold cTr
    rw [hI]; exact c8
  · rw [hI]
    exact ⟨h.is (c9 i hi).1, (c9 i hi).2⟩
  · rw [hI]
    exact ⟨h.is (c10 e he).1, (c10 e he).2⟩
  · rw [hI]
    exact ⟨h.is (c11 o ho).1, (c11 o ho).2⟩
  · obtain ⟨d1, d2, d3, d4, d5⟩ := c12.2.2 b hb
    rw [(h.1 _ c12.1.1).2.2.2.2, (h.1 _ d2.1).2.2.1, (h.1 _ d2.1).2.2.2.1]
    exact ⟨d1, h.is d2, d3, d4, d5⟩

section C21
variable {D : va_G} {ar : Nat → ClassId} {tg te mi : Nat} {S : CS}
variable {a v : Nat → Nat} {w : Nat → Nat → Nat} {E Q W P O : Nat} {M : Nat → Nat → Int32} {T : Int64}
set_option maxRecDepth 100000 in
theorem k_X4_trace (hs : cHs a S M T)  : Cn D ar (XC tg te mi) yX4_trace cX4_trace 1 (some .long) 0 0 0 0 [.ref (a 0)] (cW ar S) (fun r w9 => r = some (.long T) ∧ w9 = cW ar S) := by
  refine Cn.of (own := RX4) XC_ok (by decide) rfl (Nat.le_of_ble_eq_true rfl) (fun j C => ?_)
  have C0 := C.to
  show j _ 0 0 0 [(0, _)] []
  refine r_aload_n C0 0 0 dX4_trace_0 rfl rfl ?_
  refine cgJ C0 1 flX4_201 hs.1 dX4_trace_1 ?_
  refine r_lret C 4 dX4_trace_4 (Nat.le_refl _) (Nat.le_refl _) ?_
  exact ⟨by rw [hs.2.2.2.2.2], rfl⟩
def row1 (M : Nat → Nat → Int32) (b k : Nat) : Int32 := if k = 0 then M 15 (16 + b) else M 15 (4 * (k - 1) + b)
def rowN (M : Nat → Nat → Int32) (k : Nat) : Nat → Int32
  | 0 => 0
  | b + 1 => rowN M k b + row1 M b k
theorem cBb.at {a : Nat → Nat} {S : CS} {M : Nat → Nat → Int32} (h : cBb a S M) {b k : Nat} (hb : b < 4) (hk : k < 5) : S.2.2.2.2.2.2.1 (a (10 + b)) k = row1 M b k := by
  obtain ⟨-, -, -, d4, d5⟩ := h.2.2 b hb
  unfold row1
  by_cases q : k = 0
  · rw [if_pos q, q]; exact d4
  · rw [if_neg q]
    have := d5 (k - 1) (by omega)
    rw [show k - 1 + 1 = k by omega] at this
    exact this
set_option maxRecDepth 100000 in
theorem k_X4_ofAllBarns (hs : cHs a S M T) (bb : cBb a S M) {k : Nat} (hk : k < 5)  : Cn D ar (XC tg te mi) yX4_ofAllBarns cX4_ofAllBarns 4 (some .int) 0 0 0 0 [.ref (a 0), .int (nI k)] (cW ar S) (fun r w9 => r = some (.int (rowN M k 4)) ∧ w9 = cW ar S) := by
  refine Cn.of (own := RX4) XC_ok (by decide) rfl (Nat.le_of_ble_eq_true rfl) (fun j C => ?_)
  have C0 := C.to
  show j _ 0 0 0 [(0, _), (1, _)] []
  refine r_iconst C0 0 0 dX4_ofAllBarns_0 (by decide) ?_
  refine r_istore_n (lv' := [(0, _), (1, _), (2, _)]) C0 1 2 dX4_ofAllBarns_1 rfl rfl (by decide) rfl ?_
  refine r_iconst C0 2 0 dX4_ofAllBarns_2 (by decide) ?_
  refine r_istore_n (lv' := [(0, _), (1, _), (2, _), (3, _)]) C0 3 3 dX4_ofAllBarns_3 rfl rfl (by decide) rfl ?_
  refine loopUp (P := 4) (f := fun b => j (cW ar S) 0 0 4 [(0, .ref (a 0)), (1, .int (nI k)), (2, .int (rowN M k b)), (3, .int (nI b))] []) (fun b hi ih => ?_) 0 (Nat.zero_le _)
  refine r_iload_n C0 4 3 dX4_ofAllBarns_4 rfl rfl ?_
  refine r_iconst C0 5 4 dX4_ofAllBarns_5 (by decide) ?_
  refine r_icmp_ge C0 6 26 dX4_ofAllBarns_6 (by decide) (fun c_6 => ?_) (fun c_6 => ?_)
  · have hge : 4 ≤ b := (nI_leI (a := 4) (by omega) (by omega)).mp c_6
    refine r_iload_n C0 26 2 dX4_ofAllBarns_26 rfl rfl ?_
    refine r_iret C 27 dX4_ofAllBarns_27 (Nat.le_refl _) (Nat.le_refl _) ?_
    have e : b = 4 := by omega
    subst e
    exact ⟨rfl, rfl⟩
  · have hlt : b < 4 := Nat.lt_of_not_le (fun q => c_6 (nI_le (a := 4) q (by omega)))
    have d := bb.2.2 b hlt
    refine r_iload_n C0 9 2 dX4_ofAllBarns_9 rfl rfl ?_
    refine r_aload_n C0 10 0 dX4_ofAllBarns_10 rfl rfl ?_
    refine cgR_7 C0 11 hs.2.1.2.2.2.2.2.2 flX4_39 hs.1 dX4_ofAllBarns_11 ?_
    refine r_iload_n C0 14 3 dX4_ofAllBarns_14 rfl rfl ?_
    refine ca_ald C0 15 b (by decide) bb.1 rfl (by rw [bb.2.1]; exact hlt) (by rw [bb.2.1]; decide) d.1 dX4_ofAllBarns_15 ?_
    refine r_iload_n C0 16 1 dX4_ofAllBarns_16 rfl rfl ?_
    refine ca_ild C0 17 k d.2.1 rfl (by rw [d.2.2.1]; exact hk) (by rw [d.2.2.1]; decide) dX4_ofAllBarns_17 ?_
    refine r_iadd C0 18 dX4_ofAllBarns_18 ?_
    refine r_istore_n (lv' := [(0, _), (1, _), (2, _), (3, _)]) C0 19 2 dX4_ofAllBarns_19 rfl rfl (by decide) rfl ?_
    refine r_iinc (lv' := [(0, _), (1, _), (2, _), (3, _)]) C0 20 _ dX4_ofAllBarns_20 rfl rfl rfl (by decide) rfl ?_
    refine r_goto C0 23 4 dX4_ofAllBarns_23 (by decide) ?_
    have h9 := ih hlt
    rw [← nI_1 b] at h9
    rw [bb.at hlt hk]
    exact h9
theorem brnA_row {M : Nat → Nat → Int32} {x y : Nat} (hx : x < 4) (hy : y < 5) (h1 : ¬ inR (nI x) 0 3 = 0) (h2 : ¬ inR (nI y) 0 4 = 0) : brnA M (nI x) (nI y) = row1 M x y := by
  unfold brnA row1
  rw [if_neg h1, if_neg h2, nI_clamp (by omega), nI_clamp (by omega)]
  by_cases q : y = 0
  · rw [if_pos q, if_pos (by rw [q]; rfl)]
  · rw [if_neg q, if_neg (show ¬ nI y = 0 from fun z => q ((nI_eq (b := 0) (by omega) (by omega)).mp z))]
set_option maxRecDepth 100000 in
theorem k_X4_barn (hs : cHs a S M T) (bb : cBb a S M) (b wh : Int32)  : Cn D ar (XC tg te mi) yX4_barn cX4_barn 3 (some .int) 2 42 0 0 [.ref (a 0), .int b, .int wh] (cW ar S) (fun r w9 => r = some (.int (brnA M b wh)) ∧ w9 = cW ar S) := by
  refine Cn.of (own := RX4) XC_ok (by decide) rfl (Nat.le_of_ble_eq_true rfl) (fun j C => ?_)
  have C0 := C.to
  show j _ 0 0 0 [(0, _), (1, _), (2, _)] []
  refine r_iload_n C0 0 1 dX4_barn_0 rfl rfl ?_
  refine s_call (As := [.int _]) C0 1 1 (k_X4_isBarn XC_ok _ _) (rm_X4_isBarn (by decide) (by decide) (Nat.le_refl _) (Nat.le_refl _)) mlX4_45 st_X4_isBarn rfl (Nat.le_of_ble_eq_true rfl) dX4_barn_1 ?_
  rintro _ _ ⟨rfl, rfl⟩
  refine r_if_eq C0 4 16 dX4_barn_4 (by decide) (fun c_4 => ?_) (fun c_4 => ?_)
  · refine r_iconst C0 16 (-1) dX4_barn_16 (by decide) ?_
    refine r_iret C 17 dX4_barn_17 (Nat.le_refl _) (Nat.le_refl _) ?_
    exact ⟨by simp [brnA, eq_true c_4], rfl⟩
  · refine r_iload_n C0 7 2 dX4_barn_7 rfl rfl ?_
    refine r_iconst C0 8 0 dX4_barn_8 (by decide) ?_
    refine r_iconst C0 9 4 dX4_barn_9 (by decide) ?_
    refine s_call (As := [.int _, .int _, .int _]) C0 10 3 (k_X4_isWithin XC_ok _ _ _ _) (rm_X4_isWithin (by decide) (by decide) (Nat.le_refl _) (Nat.le_refl _)) mlX4_49 st_X4_isWithin rfl (Nat.le_of_ble_eq_true rfl) dX4_barn_10 ?_
    rintro _ _ ⟨rfl, rfl⟩
    refine r_if_ne C0 13 18 dX4_barn_13 (by decide) (fun c_13 => ?_) (fun c_13 => ?_)
    · obtain ⟨x, hx, rfl⟩ := inR_3 c_4
      obtain ⟨y, hy, rfl⟩ := inR_x (n := 4) rfl c_13
      have d := bb.2.2 x hx
      refine r_aload_n C0 18 0 dX4_barn_18 rfl rfl ?_
      refine cgR_7 C0 19 hs.2.1.2.2.2.2.2.2 flX4_39 hs.1 dX4_barn_19 ?_
      refine r_iload_n C0 22 1 dX4_barn_22 rfl rfl ?_
      refine ca_ald C0 23 x (by decide) bb.1 rfl (by rw [bb.2.1]; exact hx) (by rw [bb.2.1]; decide) d.1 dX4_barn_23 ?_
      refine r_iload_n C0 24 2 dX4_barn_24 rfl rfl ?_
      refine ca_ild C0 25 y d.2.1 rfl (by rw [d.2.2.1]; omega) (by rw [d.2.2.1]; decide) dX4_barn_25 ?_
      refine r_iret C 26 dX4_barn_26 (Nat.le_refl _) (Nat.le_refl _) ?_
      exact ⟨by rw [bb.at hx (by omega), brnA_row hx (by omega) c_4 c_13], rfl⟩
    · refine r_iconst C0 16 (-1) dX4_barn_16 (by decide) ?_
      refine r_iret C 17 dX4_barn_17 (Nat.le_refl _) (Nat.le_refl _) ?_
      exact ⟨by simp [brnA, eq_false c_4, eq_true c_13], rfl⟩
set_option maxRecDepth 100000 in
theorem k_X4_eggsOnLine (hs : cHs a S M T) (ln : cLn a w S M) (li : LiOK M E) (hE : E ≤ 600)  : Cn D ar (XC tg te mi) yX4_eggsOnLine cX4_eggsOnLine 3 (some .int) 0 0 0 0 [.ref (a 0)] (cW ar S) (fun r w9 => r = some (.int (linN M 16)) ∧ w9 = cW ar S) := by
  refine Cn.of (own := RX4) XC_ok (by decide) rfl (Nat.le_of_ble_eq_true rfl) (fun j C => ?_)
  have C0 := C.to
  show j _ 0 0 0 [(0, _)] []
  have hz : ∀ k, k < 16 → (M 10 k ≤ 0 ↔ M 10 k = 0) := fun k hk => by
    obtain ⟨x, hx, e⟩ := li k hk
    rw [e]
    constructor
    · intro q
      have : x = 0 := Classical.byContradiction (fun z => nI_nle (n := x) (by omega) (by omega) q)
      rw [this]; rfl
    · intro q; rw [q]; decide
  refine r_iconst C0 0 0 dX4_eggsOnLine_0 (by decide) ?_
  refine r_istore_n (lv' := [(0, _), (1, _)]) C0 1 1 dX4_eggsOnLine_1 rfl rfl (by decide) rfl ?_
  refine r_iconst C0 2 0 dX4_eggsOnLine_2 (by decide) ?_
  refine r_istore_n (lv' := [(0, _), (1, _), (2, _)]) C0 3 2 dX4_eggsOnLine_3 rfl rfl (by decide) rfl ?_
  refine loopUp (P := 16) (f := fun i => j (cW ar S) 0 0 4 [(0, .ref (a 0)), (1, .int (linN M i)), (2, .int (nI i))] []) (fun i hi ih => ?_) 0 (Nat.zero_le _)
  refine r_iload_n C0 4 2 dX4_eggsOnLine_4 rfl rfl ?_
  refine r_bipush C0 5 16 dX4_eggsOnLine_5 (by decide) ?_
  refine r_icmp_ge C0 7 28 dX4_eggsOnLine_7 (by decide) (fun c_7 => ?_) (fun c_7 => ?_)
  · have hge : 16 ≤ i := (nI_leI (a := 16) (by omega) (by omega)).mp c_7
    refine r_iload_n C0 28 1 dX4_eggsOnLine_28 rfl rfl ?_
    refine r_iret C 29 dX4_eggsOnLine_29 (Nat.le_refl _) (Nat.le_refl _) ?_
    have e : i = 16 := by omega
    subst e
    exact ⟨rfl, rfl⟩
  · have hlt : i < 16 := Nat.lt_of_not_le (fun q => c_7 (nI_le (a := 16) q (by omega)))
    by_cases h0 : M 10 i = 0
    · refine r_aload_n C0 10 0 dX4_eggsOnLine_10 rfl rfl ?_
      refine cgR_3 C0 11 hs.2.1.2.2.1 flX4_21 hs.1 dX4_eggsOnLine_11 ?_
      refine r_iload_n C0 14 2 dX4_eggsOnLine_14 rfl rfl ?_
      refine ca_ald C0 15 i (by decide) ln.1 rfl (by rw [ln.2.1]; exact hlt) (by rw [ln.2.1]; decide) (by rw [ln.2.2 i hlt, if_pos h0]) dX4_eggsOnLine_15 ?_
      refine r_ifnullN C0 16 22 dX4_eggsOnLine_16 (by decide) ?_
      refine r_iinc (lv' := [(0, _), (1, _), (2, _)]) C0 22 _ dX4_eggsOnLine_22 rfl rfl rfl (by decide) rfl ?_
      refine r_goto C0 25 4 dX4_eggsOnLine_25 (by decide) ?_
      have h9 := ih hlt
      rw [← nI_1 i] at h9
      rw [show linN M (i + 1) = linN M i by show linN M i + (if M 10 i ≤ 0 then 0 else 1) = _; rw [if_pos ((hz i hlt).mpr h0)]; simp] at h9
      exact h9
    · refine r_aload_n C0 10 0 dX4_eggsOnLine_10 rfl rfl ?_
      refine cgR_3 C0 11 hs.2.1.2.2.1 flX4_21 hs.1 dX4_eggsOnLine_11 ?_
      refine r_iload_n C0 14 2 dX4_eggsOnLine_14 rfl rfl ?_
      refine ca_ald C0 15 i (by decide) ln.1 rfl (by rw [ln.2.1]; exact hlt) (by rw [ln.2.1]; decide) (by rw [ln.2.2 i hlt, if_neg h0]) dX4_eggsOnLine_15 ?_
      refine r_ifnull C0 16 dX4_eggsOnLine_16 ?_
      refine r_iinc (lv' := [(0, _), (1, _), (2, _)]) C0 19 _ dX4_eggsOnLine_19 rfl rfl rfl (by decide) rfl ?_
      refine r_iinc (lv' := [(0, _), (1, _), (2, _)]) C0 22 _ dX4_eggsOnLine_22 rfl rfl rfl (by decide) rfl ?_
      refine r_goto C0 25 4 dX4_eggsOnLine_25 (by decide) ?_
      have h9 := ih hlt
      rw [← nI_1 i] at h9
      rw [show linN M (i + 1) = linN M i + 1 by show linN M i + (if M 10 i ≤ 0 then 0 else 1) = _; rw [if_neg (fun q => h0 ((hz i hlt).mp q))]] at h9
      exact h9
def tryN (M : Nat → Nat → Int32) : Nat → Int32
  | 0 => 0
  | p + 1 => tryN M p + M 19 p
set_option maxRecDepth 100000 in
theorem k_X4_eggsInTrays (hs : cHs a S M T) (pr : cPr a w S M) (tr : cTr w S M)  : Cn D ar (XC tg te mi) yX4_eggsInTrays cX4_eggsInTrays 3 (some .int) 0 0 0 0 [.ref (a 0)] (cW ar S) (fun r w9 => r = some (.int (tryN M 4)) ∧ w9 = cW ar S) := by
  refine Cn.of (own := RX4) XC_ok (by decide) rfl (Nat.le_of_ble_eq_true rfl) (fun j C => ?_)
  have C0 := C.to
  show j _ 0 0 0 [(0, _)] []
  refine r_iconst C0 0 0 dX4_eggsInTrays_0 (by decide) ?_
  refine r_istore_n (lv' := [(0, _), (1, _)]) C0 1 1 dX4_eggsInTrays_1 rfl rfl (by decide) rfl ?_
  refine r_iconst C0 2 0 dX4_eggsInTrays_2 (by decide) ?_
  refine r_istore_n (lv' := [(0, _), (1, _), (2, _)]) C0 3 2 dX4_eggsInTrays_3 rfl rfl (by decide) rfl ?_
  refine loopUp (P := 4) (f := fun p => j (cW ar S) 0 0 4 [(0, .ref (a 0)), (1, .int (tryN M p)), (2, .int (nI p))] []) (fun p hi ih => ?_) 0 (Nat.zero_le _)
  refine r_iload_n C0 4 2 dX4_eggsInTrays_4 rfl rfl ?_
  refine r_iconst C0 5 4 dX4_eggsInTrays_5 (by decide) ?_
  refine r_icmp_ge C0 6 30 dX4_eggsInTrays_6 (by decide) (fun c_6 => ?_) (fun c_6 => ?_)
  · have hge : 4 ≤ p := (nI_leI (a := 4) (by omega) (by omega)).mp c_6
    refine r_iload_n C0 30 1 dX4_eggsInTrays_30 rfl rfl ?_
    refine r_iret C 31 dX4_eggsInTrays_31 (Nat.le_refl _) (Nat.le_refl _) ?_
    have e : p = 4 := by omega
    subst e
    exact ⟨rfl, rfl⟩
  · have hlt : p < 4 := Nat.lt_of_not_le (fun q => c_6 (nI_le (a := 4) q (by omega)))
    have d := pr.2.2 p hlt
    refine r_iload_n C0 9 1 dX4_eggsInTrays_9 rfl rfl ?_
    refine r_aload_n C0 10 0 dX4_eggsInTrays_10 rfl rfl ?_
    refine cgR_4 C0 11 hs.2.1.2.2.2.1 flX4_27 hs.1 dX4_eggsInTrays_11 ?_
    refine r_iload_n C0 14 2 dX4_eggsInTrays_14 rfl rfl ?_
    refine ca_ald C0 15 p (by decide) pr.1 rfl (by rw [pr.2.1]; exact hlt) (by rw [pr.2.1]; decide) d.1 dX4_eggsInTrays_15 ?_
    refine cgR_0 C0 16 d.2.2.2.2.2.2.1 flX4_84 d.2.1 dX4_eggsInTrays_16 ?_
    refine cgI_21 C0 19 flX4_88 d.2.2.2.2.2.2.2 dX4_eggsInTrays_19 ?_
    refine r_iadd C0 22 dX4_eggsInTrays_22 ?_
    refine r_istore_n (lv' := [(0, _), (1, _), (2, _)]) C0 23 1 dX4_eggsInTrays_23 rfl rfl (by decide) rfl ?_
    refine r_iinc (lv' := [(0, _), (1, _), (2, _)]) C0 24 _ dX4_eggsInTrays_24 rfl rfl rfl (by decide) rfl ?_
    refine r_goto C0 27 4 dX4_eggsInTrays_27 (by decide) ?_
    have h9 := ih hlt
    rw [← nI_1 p] at h9
    rw [(tr p hlt).1]
    exact h9
set_option maxRecDepth 100000 in
theorem k_X4_packer (hs : cHs a S M T) (pr : cPr a w S M) (tr : cTr w S M) (p wh : Int32)  : Cn D ar (XC tg te mi) yX4_packer cX4_packer 4 (some .int) 2 42 0 0 [.ref (a 0), .int p, .int wh] (cW ar S) (fun r w9 => r = some (.int (pkrA M p wh)) ∧ w9 = cW ar S) := by
  refine Cn.of (own := RX4) XC_ok (by decide) rfl (Nat.le_of_ble_eq_true rfl) (fun j C => ?_)
  have C0 := C.to
  show j _ 0 0 0 [(0, _), (1, _), (2, _)] []
  refine r_iload_n C0 0 1 dX4_packer_0 rfl rfl ?_
  refine s_call (As := [.int _]) C0 1 1 (k_X4_isPacker XC_ok _ _) (rm_X4_isPacker (by decide) (by decide) (Nat.le_refl _) (Nat.le_refl _)) mlX4_78 st_X4_isPacker rfl (Nat.le_of_ble_eq_true rfl) dX4_packer_1 ?_
  rintro _ _ ⟨rfl, rfl⟩
  refine r_if_ne C0 4 9 dX4_packer_4 (by decide) (fun c_4 => ?_) (fun c_4 => ?_)
  · obtain ⟨x, hx, rfl⟩ := inR_3 c_4
    have hcl : (nI x).toNatClampNeg = x := nI_clamp (by omega)
    have d := pr.2.2 x hx
    have t := tr x hx
    refine r_aload_n C0 9 0 dX4_packer_9 rfl rfl ?_
    refine cgR_4 C0 10 hs.2.1.2.2.2.1 flX4_27 hs.1 dX4_packer_10 ?_
    refine r_iload_n C0 13 1 dX4_packer_13 rfl rfl ?_
    refine ca_ald C0 14 x (by decide) pr.1 rfl (by rw [pr.2.1]; exact hx) (by rw [pr.2.1]; decide) d.1 dX4_packer_14 ?_
    refine r_astore_n (lv' := [(0, _), (1, _), (2, _), (3, _)]) C0 15 3 dX4_packer_15 rfl rfl (by decide) rfl ?_
    refine r_iload_n C0 16 2 dX4_packer_16 rfl rfl ?_
    rcases swc 5 (by decide) wh with ⟨i, hi, rfl⟩ | ho
    · rcases (show i = 0 ∨ i = 1 ∨ i = 2 ∨ i = 3 ∨ i = 4 by omega) with rfl | rfl | rfl | rfl | rfl
      · refine r_tableIn C0 17 52 dX4_packer_17 (by decide) (by decide) rfl (by decide) ?_
        refine r_aload_n C0 52 3 dX4_packer_52 rfl rfl ?_
        refine cgI_31 C0 53 flX4_93 d.2.1 dX4_packer_53 ?_
        refine r_iret C 56 dX4_packer_56 (Nat.le_refl _) (Nat.le_refl _) ?_
        exact ⟨by rw [d.2.2.2.1]; simp only [pkrA, hcl, eq_false c_4]; rfl, rfl⟩
      · refine r_tableIn C0 17 57 dX4_packer_17 (by decide) (by decide) rfl (by decide) ?_
        refine r_aload_n C0 57 3 dX4_packer_57 rfl rfl ?_
        refine cgI_32 C0 58 flX4_96 d.2.1 dX4_packer_58 ?_
        refine s_call (As := [.int _]) C0 61 1 (k_X4_asNumber XC_ok _ _) (rm_X4_asNumber (by decide) (by decide) (Nat.le_refl _) (Nat.le_refl _)) mlX4_100 st_X4_asNumber rfl (Nat.le_of_ble_eq_true rfl) dX4_packer_61 ?_
        rintro _ _ ⟨rfl, rfl⟩
        refine r_iret C 64 dX4_packer_64 (Nat.le_refl _) (Nat.le_refl _) ?_
        exact ⟨by rw [d.2.2.2.2.1]; simp only [pkrA, hcl, eq_false c_4]; by_cases q : M 17 x = 0 <;> simp [q] <;> rfl, rfl⟩
      · refine r_tableIn C0 17 65 dX4_packer_17 (by decide) (by decide) rfl (by decide) ?_
        refine r_aload_n C0 65 3 dX4_packer_65 rfl rfl ?_
        refine cgR_0 C0 66 d.2.2.2.2.2.2.1 flX4_84 d.2.1 dX4_packer_66 ?_
        refine cgI_21 C0 69 flX4_88 d.2.2.2.2.2.2.2 dX4_packer_69 ?_
        refine r_iret C 72 dX4_packer_72 (Nat.le_refl _) (Nat.le_refl _) ?_
        exact ⟨by rw [t.1]; simp only [pkrA, hcl, eq_false c_4]; rfl, rfl⟩
      · refine r_tableIn C0 17 73 dX4_packer_17 (by decide) (by decide) rfl (by decide) ?_
        refine r_aload_n C0 73 3 dX4_packer_73 rfl rfl ?_
        refine cgI_33 C0 74 flX4_119 d.2.1 dX4_packer_74 ?_
        refine r_iret C 77 dX4_packer_77 (Nat.le_refl _) (Nat.le_refl _) ?_
        exact ⟨by rw [d.2.2.2.2.2.1]; simp only [pkrA, hcl, eq_false c_4]; rfl, rfl⟩
      · refine r_tableIn C0 17 78 dX4_packer_17 (by decide) (by decide) rfl (by decide) ?_
        refine r_aload_n C0 78 3 dX4_packer_78 rfl rfl ?_
        refine cgR_0 C0 79 d.2.2.2.2.2.2.1 flX4_84 d.2.1 dX4_packer_79 ?_
        refine cgI_22 C0 82 flX4_122 d.2.2.2.2.2.2.2 dX4_packer_82 ?_
        refine r_iret C 85 dX4_packer_85 (Nat.le_refl _) (Nat.le_refl _) ?_
        exact ⟨by rw [t.2.1]; simp only [pkrA, hcl, eq_false c_4]; rfl, rfl⟩
    · refine r_tableOut C0 17 86 dX4_packer_17 ho (by decide) ?_
      refine r_iconst C0 86 (-1) dX4_packer_86 (by decide) ?_
      refine r_iret C 87 dX4_packer_87 (Nat.le_refl _) (Nat.le_refl _) ?_
      exact ⟨by simp [pkrA, swn ho (c := 0) (by decide), swn ho (c := 1) (by decide), swn ho (c := 2) (by decide), swn ho (c := 3) (by decide), swn ho (c := 4) (by decide), eq_false c_4], rfl⟩
  · refine r_iconst C0 7 (-1) dX4_packer_7 (by decide) ?_
    refine r_iret C 8 dX4_packer_8 (Nat.le_refl _) (Nat.le_refl _) ?_
    exact ⟨by simp [pkrA, eq_true c_4], rfl⟩
end C21
