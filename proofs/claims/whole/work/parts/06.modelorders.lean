/-! the model: what its methods answer (pure), and the methods with loops over packs and orders -/
theorem loopUp {P : Nat} {f : Nat → Prop} (step : ∀ i, i ≤ P → (i < P → f (i + 1)) → f i) : ∀ i, i ≤ P → f i := by
  have h : ∀ d i, i + d = P → f i := by
    intro d
    induction d with
    | zero => intro i hi; exact step i (by omega) (fun q => by omega)
    | succ d ih => intro i hi; exact step i (by omega) (fun _ => ih (i + 1) (by omega))
  intro i hi
  exact h (P - i) i (by omega)
theorem inR_x {v b : Int32} {n : Nat} (hb : b.toInt = n) (h : ¬ inR v 0 b = 0) : ∃ x : Nat, x ≤ n ∧ v = nI x := by
  have h1 : 0 ≤ v ∧ v ≤ b := Classical.byContradiction (fun q => h (inR_0.mpr q))
  exact nI_of2 hb (Int32.not_lt.mpr h1.1) h1.2
theorem nI_m1 {P : Nat} (hP : P < 2 ^ 30) : (nI P - 1).toInt = (P : Int) - 1 := by
  have h := pk_sub_toInt (a := P) (b := 1) hP (by decide)
  exact h
theorem inR_p {v : Int32} {P : Nat} (hP : P < 2 ^ 30) (h : ¬ inR v 0 (nI P - 1) = 0) : ∃ x : Nat, x < P ∧ v = nI x := by
  have h1 : 0 ≤ v ∧ v ≤ nI P - 1 := Classical.byContradiction (fun q => h (inR_0.mpr q))
  have h2 := Int32.le_iff_toInt_le.mp h1.2
  rw [nI_m1 hP] at h2
  have h3 := Int32.le_iff_toInt_le.mp h1.1
  have h4 : (0 : Int32).toInt = 0 := rfl
  rw [h4] at h3
  obtain ⟨x, hx, e⟩ := nI_of2 (x := v) (M := nI (P - 1)) (n := P - 1) (nI_toInt (by omega)) (Int32.not_lt.mpr h1.1) (Int32.le_iff_toInt_le.mpr (by rw [nI_toInt (by omega)]; omega))
  exact ⟨x, by omega, e⟩
def isFr (M : Nat → Nat → Int32) (x : Nat) : Int32 := if M 28 x = -9 then if M 29 x = 0 then 1 else 0 else 0
def fr1 (M : Nat → Nat → Int32) (g : Int32) (x : Nat) : Int32 := if M 22 x = g then if isFr M x = 0 then 0 else 1 else 0
def freeN (M : Nat → Nat → Int32) (g : Int32) : Nat → Int32
  | 0 => 0
  | p + 1 => freeN M g p + fr1 M g p
def bitN (s : Int32) (o : Nat) : Int32 := (s >>> (nI o &&& 31)) &&& 1
def wo1 (M : Nat → Nat → Int32) (s : Int32) (o : Nat) : Int32 := if bitN s o = 1 then M 33 o else 0
def worthN (M : Nat → Nat → Int32) (s : Int32) : Nat → Int32
  | 0 => 0
  | o + 1 => worthN M s o + wo1 M s o
def wa1 (M : Nat → Nat → Int32) (s g : Int32) (o : Nat) : Int32 := if bitN s o = 1 then if M 31 o = g then M 32 o else 0 else 0
def wantN (M : Nat → Nat → Int32) (s g : Int32) : Nat → Int32
  | 0 => 0
  | o + 1 => wantN M s g o + wa1 M s g o
def can1 (M : Nat → Nat → Int32) (s : Int32) (P O g : Nat) (c : Int32) : Int32 := if c = 0 then 0 else if freeN M (nI g) P < wantN M s (nI g) O then 0 else 1
def canA (M : Nat → Nat → Int32) (s : Int32) (P O : Nat) : Nat → Int32
  | 0 => 1
  | g + 1 => can1 M s P O g (canA M s P O g)
def can2 (M : Nat → Nat → Int32) (s : Int32) (o : Nat) (c : Int32) : Int32 := if c = 0 then 0 else if bitN s o = 0 then 1 else if M 34 o = 0 then 1 else 0
def canB (M : Nat → Nat → Int32) (s : Int32) (P O : Nat) : Nat → Int32
  | 0 => canA M s P O 6
  | o + 1 => can2 M s o (canB M s P O o)
def bs1 (M : Nat → Nat → Int32) (P O s : Nat) (b : Int32) : Int32 := if canB M (nI s) P O O = 0 then b else if worthN M (nI s) O ≤ worthN M b O then b else nI s
def bestN (M : Nat → Nat → Int32) (P O : Nat) : Nat → Int32
  | 0 => 0
  | s + 1 => bs1 M P O (s + 1) (bestN M P O s)
theorem can1_01 {M : Nat → Nat → Int32} {s : Int32} {P O g : Nat} {c : Int32} : can1 M s P O g c = 0 ∨ can1 M s P O g c = 1 := by
  unfold can1
  by_cases h : c = 0
  · rw [if_pos h]; exact Or.inl rfl
  · rw [if_neg h]
    by_cases h2 : freeN M (nI g) P < wantN M s (nI g) O
    · rw [if_pos h2]; exact Or.inl rfl
    · rw [if_neg h2]; exact Or.inr rfl
theorem canA_01 {M : Nat → Nat → Int32} {s : Int32} {P O : Nat} : ∀ {g : Nat}, canA M s P O g = 0 ∨ canA M s P O g = 1
  | 0 => Or.inr rfl
  | _ + 1 => can1_01
theorem can2_01 {M : Nat → Nat → Int32} {s : Int32} {o : Nat} {c : Int32} : can2 M s o c = 0 ∨ can2 M s o c = 1 := by
  unfold can2
  by_cases h : c = 0
  · rw [if_pos h]; exact Or.inl rfl
  · rw [if_neg h]
    by_cases h2 : bitN s o = 0
    · rw [if_pos h2]; exact Or.inr rfl
    · rw [if_neg h2]
      by_cases h3 : M 34 o = 0
      · rw [if_pos h3]; exact Or.inr rfl
      · rw [if_neg h3]; exact Or.inl rfl
theorem canB_01 {M : Nat → Nat → Int32} {s : Int32} {P O : Nat} : ∀ {o : Nat}, canB M s P O o = 0 ∨ canB M s P O o = 1
  | 0 => canA_01
  | _ + 1 => can2_01
theorem nar01 {v : Int32} (h : v = 0 ∨ v = 1) : narrow .boolean (.int v) = .int v := by
  rcases h with rfl | rfl <;> rfl
theorem isFr_01 {M : Nat → Nat → Int32} {x : Nat} : isFr M x = 0 ∨ isFr M x = 1 := by
  unfold isFr
  by_cases h : M 28 x = -9
  · rw [if_pos h]
    by_cases h2 : M 29 x = 0
    · rw [if_pos h2]; exact Or.inr rfl
    · rw [if_neg h2]; exact Or.inl rfl
  · rw [if_neg h]; exact Or.inl rfl
theorem shl6 : ∀ {O : Nat}, O ≤ 6 → (1 : Int32) <<< (nI O &&& 31) = nI (2 ^ O)
  | 0, _ => by decide
  | 1, _ => by decide
  | 2, _ => by decide
  | 3, _ => by decide
  | 4, _ => by decide
  | 5, _ => by decide
  | 6, _ => by decide
  | n + 7, h => absurd h (by omega)
theorem pow6 : ∀ {O : Nat}, O ≤ 6 → 1 ≤ 2 ^ O ∧ 2 ^ O ≤ 64
  | 0, _ => by decide
  | 1, _ => by decide
  | 2, _ => by decide
  | 3, _ => by decide
  | 4, _ => by decide
  | 5, _ => by decide
  | 6, _ => by decide
  | n + 7, h => absurd h (by omega)

/-- locals may be forgotten: the shorter list holds of the longer one's -/
theorem r_drop {own : String} {cc : ByteArray} {nL : Nat} {D : va_G} {ar : Nat → ClassId} {X : XT} {R : Room} {j : jT} {ws : va_W} {k n pc : Nat} {lv lv' : List (Nat × Value)} {st : List Value} (C : Cx0 own cc nL D ar X R j) (h : ∀ q ∈ lv', q ∈ lv) (kk : j ws k n pc lv' st) : j ws k n pc lv st := by
  obtain ⟨p, l, e, s, m, args, below, meth, c, A, Q, hz, rfl⟩ := C
  intro H locs ls hP hD hS hl
  exact kk H locs ls hP hD hS ⟨hl.1, hl.2.1, fun q hq => hl.2.2 q (h q hq)⟩
section M6
variable {D : va_G} {ar : Nat → ClassId} {X : XT} {h1 : Nat} {ad : Nat → Nat} {M : Nat → Nat → Int32} {T : Int64}
set_option maxRecDepth 100000 in
theorem k5_isFree (hX : Xok X) {x : Nat} (hx : x < 60)  : Cn D ar X yX5_isFree cX5_isFree 2 (some .boolean) 0 0 0 0 [.ref h1, .int (nI x)] (mW ar h1 ad M T) (fun r w => r = some (.int (isFr M x)) ∧ w = mW ar h1 ad M T) := by
  refine Cn.of (own := RX5) hX (by decide) rfl (Nat.le_of_ble_eq_true rfl) (fun j C => ?_)
  have C0 := C.to
  show j _ 0 0 0 [(0, _), (1, _)] []
  refine r_aload_n C0 0 0 dX5_isFree_0 rfl rfl ?_
  refine m_getA C0 1 28 (by decide) fl5_80 rfl dX5_isFree_1 ?_
  refine r_iload_n C0 4 1 dX5_isFree_4 rfl rfl ?_
  refine m_ld C0 5 x rfl rfl hx dX5_isFree_5 ?_
  refine r_bipush C0 6 (-9) dX5_isFree_6 (by decide) ?_
  refine r_icmp_ne C0 8 24 dX5_isFree_8 (by decide) (fun c_8 => ?_) (fun c_8 => ?_)
  · refine r_iconst C0 24 0 dX5_isFree_24 (by decide) ?_
    refine r_zret C 25 rfl dX5_isFree_25 (Nat.le_refl _) (Nat.le_refl _) ?_
    exact ⟨by simp [isFr, *], rfl⟩
  · refine r_aload_n C0 11 0 dX5_isFree_11 rfl rfl ?_
    refine m_getA C0 12 29 (by decide) fl5_83 rfl dX5_isFree_12 ?_
    refine r_iload_n C0 15 1 dX5_isFree_15 rfl rfl ?_
    refine m_ldz C0 16 x rfl rfl hx dX5_isFree_16 ?_
    refine r_if_ne C0 17 24 dX5_isFree_17 (by decide) (fun c_17 => ?_) (fun c_17 => ?_)
    · refine r_iconst C0 24 0 dX5_isFree_24 (by decide) ?_
      refine r_zret C 25 rfl dX5_isFree_25 (Nat.le_refl _) (Nat.le_refl _) ?_
      exact ⟨by simp [isFr, *], rfl⟩
    · refine r_iconst C0 20 1 dX5_isFree_20 (by decide) ?_
      refine r_goto C0 21 25 dX5_isFree_21 (by decide) ?_
      refine r_zret C 25 rfl dX5_isFree_25 (Nat.le_refl _) (Nat.le_refl _) ?_
      exact ⟨by simp [isFr, *], rfl⟩
set_option maxRecDepth 100000 in
theorem k5_freeOf (hX : Xok X) {P : Nat} (hP : M 21 0 = nI P) (hP6 : P ≤ 60) (g : Int32)  : Cn D ar X yX5_freeOf cX5_freeOf 4 (some .int) 1 21 0 0 [.ref h1, .int g] (mW ar h1 ad M T) (fun r w => r = some (.int (freeN M g P)) ∧ w = mW ar h1 ad M T) := by
  refine Cn.of (own := RX5) hX (by decide) rfl (Nat.le_of_ble_eq_true rfl) (fun j C => ?_)
  have C0 := C.to
  show j _ 0 0 0 [(0, _), (1, _)] []
  refine r_iconst C0 0 0 dX5_freeOf_0 (by decide) ?_
  refine r_istore_n (lv' := [(0, _), (1, _), (2, _)]) C0 1 2 dX5_freeOf_1 rfl rfl (by decide) rfl ?_
  refine r_iconst C0 2 0 dX5_freeOf_2 (by decide) ?_
  refine r_istore_n (lv' := [(0, _), (1, _), (2, _), (3, _)]) C0 3 3 dX5_freeOf_3 rfl rfl (by decide) rfl ?_
  refine loopUp (P := P) (f := fun i => j (mW ar h1 ad M T) 0 0 4 [(0, .ref h1), (1, .int g), (2, .int (freeN M g i)), (3, .int (nI i))] []) (fun i hi ih => ?_) 0 (Nat.zero_le _)
  refine r_iload_n C0 4 3 dX5_freeOf_4 rfl rfl ?_
  refine r_aload_n C0 5 0 dX5_freeOf_5 rfl rfl ?_
  refine m_getI C0 6 21 rfl fl5_135 rfl dX5_freeOf_6 ?_
  refine r_icmp_ge C0 9 44 dX5_freeOf_9 (by decide) (fun c_9 => ?_) (fun c_9 => ?_)
  · have hge : P ≤ i := (nI_leI (by omega) (by omega)).mp (by rw [← hP]; exact c_9)
    refine r_iload_n C0 44 2 dX5_freeOf_44 rfl rfl ?_
    refine r_iret C 45 dX5_freeOf_45 (Nat.le_refl _) (Nat.le_refl _) ?_
    have e : i = P := by omega
    subst e
    exact ⟨rfl, rfl⟩
  · have hlt : i < P := Nat.lt_of_not_le (fun q => c_9 (by rw [hP]; exact nI_le q (by omega)))
    refine r_iload_n C0 12 2 dX5_freeOf_12 rfl rfl ?_
    refine r_aload_n C0 13 0 dX5_freeOf_13 rfl rfl ?_
    refine m_getA C0 14 22 (by decide) fl5_62 rfl dX5_freeOf_14 ?_
    refine r_iload_n C0 17 3 dX5_freeOf_17 rfl rfl ?_
    refine m_ld C0 18 i rfl rfl (show i < 60 by omega) dX5_freeOf_18 ?_
    refine r_iload_n C0 19 1 dX5_freeOf_19 rfl rfl ?_
    refine r_icmp_ne C0 20 35 dX5_freeOf_20 (by decide) (fun c_20 => ?_) (fun c_20 => ?_)
    · refine r_iconst C0 35 0 dX5_freeOf_35 (by decide) ?_
      refine r_iadd C0 36 dX5_freeOf_36 ?_
      refine r_istore_n (lv' := [(0, _), (1, _), (2, _), (3, _)]) C0 37 2 dX5_freeOf_37 rfl rfl (by decide) rfl ?_
      refine r_iinc (lv' := [(0, _), (1, _), (2, _), (3, _)]) C0 38 _ dX5_freeOf_38 rfl rfl rfl (by decide) rfl ?_
      refine r_goto C0 41 4 dX5_freeOf_41 (by decide) ?_
      simpa [freeN, fr1, nI_1, *] using ih hlt
    · refine r_aload_n C0 23 0 dX5_freeOf_23 rfl rfl ?_
      refine r_iload_n C0 24 3 dX5_freeOf_24 rfl rfl ?_
      refine m_call (As := [.int _]) C0 25 1 (k5_isFree hX (by omega)) (rm5_isFree (by decide) (by decide) (Nat.le_refl _) (Nat.le_refl _)) ml5_169 im5_isFree se5_isFree rfl (Nat.le_of_ble_eq_true rfl) dX5_freeOf_25 ?_
      rintro _ _ ⟨rfl, rfl⟩
      refine r_if_eq C0 28 35 dX5_freeOf_28 (by decide) (fun c_28 => ?_) (fun c_28 => ?_)
      · refine r_iconst C0 35 0 dX5_freeOf_35 (by decide) ?_
        refine r_iadd C0 36 dX5_freeOf_36 ?_
        refine r_istore_n (lv' := [(0, _), (1, _), (2, _), (3, _)]) C0 37 2 dX5_freeOf_37 rfl rfl (by decide) rfl ?_
        refine r_iinc (lv' := [(0, _), (1, _), (2, _), (3, _)]) C0 38 _ dX5_freeOf_38 rfl rfl rfl (by decide) rfl ?_
        refine r_goto C0 41 4 dX5_freeOf_41 (by decide) ?_
        simpa [freeN, fr1, nI_1, *] using ih hlt
      · refine r_iconst C0 31 1 dX5_freeOf_31 (by decide) ?_
        refine r_goto C0 32 36 dX5_freeOf_32 (by decide) ?_
        refine r_iadd C0 36 dX5_freeOf_36 ?_
        refine r_istore_n (lv' := [(0, _), (1, _), (2, _), (3, _)]) C0 37 2 dX5_freeOf_37 rfl rfl (by decide) rfl ?_
        refine r_iinc (lv' := [(0, _), (1, _), (2, _), (3, _)]) C0 38 _ dX5_freeOf_38 rfl rfl rfl (by decide) rfl ?_
        refine r_goto C0 41 4 dX5_freeOf_41 (by decide) ?_
        simpa [freeN, fr1, nI_1, *] using ih hlt
def freeA (M : Nat → Nat → Int32) (P : Nat) (g : Int32) : Int32 := if inR g 0 5 = 0 then -1 else freeN M g P
set_option maxRecDepth 100000 in
theorem k5_free (hX : Xok X) {P : Nat} (hP : M 21 0 = nI P) (hP6 : P ≤ 60) (g : Int32)  : Cn D ar X yX5_free cX5_free 2 (some .int) 2 44 0 0 [.ref h1, .int g] (mW ar h1 ad M T) (fun r w => r = some (.int (freeA M P g)) ∧ w = mW ar h1 ad M T) := by
  refine Cn.of (own := RX5) hX (by decide) rfl (Nat.le_of_ble_eq_true rfl) (fun j C => ?_)
  have C0 := C.to
  show j _ 0 0 0 [(0, _), (1, _)] []
  refine r_iload_n C0 0 1 dX5_free_0 rfl rfl ?_
  refine r_iconst C0 1 0 dX5_free_1 (by decide) ?_
  refine r_iconst C0 2 5 dX5_free_2 (by decide) ?_
  refine s_call (As := [.int _, .int _, .int _]) C0 3 3 (k5_in hX _ _ _ _) (rm5_in (by decide) (by decide) (Nat.le_refl _) (Nat.le_refl _)) ml5_102 st5_in rfl (Nat.le_of_ble_eq_true rfl) dX5_free_3 ?_
  rintro _ _ ⟨rfl, rfl⟩
  refine r_if_eq C0 6 17 dX5_free_6 (by decide) (fun c_6 => ?_) (fun c_6 => ?_)
  · refine r_iconst C0 17 (-1) dX5_free_17 (by decide) ?_
    refine r_iret C 18 dX5_free_18 (Nat.le_refl _) (Nat.le_refl _) ?_
    exact ⟨by simp [freeA, *], rfl⟩
  · refine r_aload_n C0 9 0 dX5_free_9 rfl rfl ?_
    refine r_iload_n C0 10 1 dX5_free_10 rfl rfl ?_
    refine m_call (As := [.int _]) C0 11 1 (k5_freeOf hX hP hP6 _) (rm5_freeOf (by decide) (by decide) (Nat.le_refl _) (Nat.le_refl _)) ml5_172 im5_freeOf se5_freeOf rfl (Nat.le_of_ble_eq_true rfl) dX5_free_11 ?_
    rintro _ _ ⟨rfl, rfl⟩
    refine r_goto C0 14 18 dX5_free_14 (by decide) ?_
    refine r_iret C 18 dX5_free_18 (Nat.le_refl _) (Nat.le_refl _) ?_
    exact ⟨by simp [freeA, *], rfl⟩
set_option maxRecDepth 100000 in
theorem k5_worthOf (hX : Xok X) {O : Nat} (hO : M 30 0 = nI O) (hO6 : O ≤ 6) (z : Int32)  : Cn D ar X yX5_worthOf cX5_worthOf 4 (some .int) 0 0 0 0 [.ref h1, .int z] (mW ar h1 ad M T) (fun r w => r = some (.int (worthN M z O)) ∧ w = mW ar h1 ad M T) := by
  refine Cn.of (own := RX5) hX (by decide) rfl (Nat.le_of_ble_eq_true rfl) (fun j C => ?_)
  have C0 := C.to
  show j _ 0 0 0 [(0, _), (1, _)] []
  refine r_iconst C0 0 0 dX5_worthOf_0 (by decide) ?_
  refine r_istore_n (lv' := [(0, _), (1, _), (2, _)]) C0 1 2 dX5_worthOf_1 rfl rfl (by decide) rfl ?_
  refine r_iconst C0 2 0 dX5_worthOf_2 (by decide) ?_
  refine r_istore_n (lv' := [(0, _), (1, _), (2, _), (3, _)]) C0 3 3 dX5_worthOf_3 rfl rfl (by decide) rfl ?_
  refine loopUp (P := O) (f := fun i => j (mW ar h1 ad M T) 0 0 4 [(0, .ref h1), (1, .int z), (2, .int (worthN M z i)), (3, .int (nI i))] []) (fun i hi ih => ?_) 0 (Nat.zero_le _)
  refine r_iload_n C0 4 3 dX5_worthOf_4 rfl rfl ?_
  refine r_aload_n C0 5 0 dX5_worthOf_5 rfl rfl ?_
  refine m_getI C0 6 30 rfl fl5_175 rfl dX5_worthOf_6 ?_
  refine r_icmp_ge C0 9 40 dX5_worthOf_9 (by decide) (fun c_9 => ?_) (fun c_9 => ?_)
  · have hge : O ≤ i := (nI_leI (by omega) (by omega)).mp (by rw [← hO]; exact c_9)
    refine r_iload_n C0 40 2 dX5_worthOf_40 rfl rfl ?_
    refine r_iret C 41 dX5_worthOf_41 (Nat.le_refl _) (Nat.le_refl _) ?_
    have e : i = O := by omega
    subst e
    exact ⟨rfl, rfl⟩
  · have hlt : i < O := Nat.lt_of_not_le (fun q => c_9 (by rw [hO]; exact nI_le q (by omega)))
    refine r_iload_n C0 12 2 dX5_worthOf_12 rfl rfl ?_
    refine r_iload_n C0 13 1 dX5_worthOf_13 rfl rfl ?_
    refine r_iload_n C0 14 3 dX5_worthOf_14 rfl rfl ?_
    refine r_ishr C0 15 dX5_worthOf_15 ?_
    refine r_iconst C0 16 1 dX5_worthOf_16 (by decide) ?_
    refine r_iand C0 17 dX5_worthOf_17 ?_
    refine r_iconst C0 18 1 dX5_worthOf_18 (by decide) ?_
    refine r_icmp_ne C0 19 31 dX5_worthOf_19 (by decide) (fun c_19 => ?_) (fun c_19 => ?_)
    · refine r_iconst C0 31 0 dX5_worthOf_31 (by decide) ?_
      refine r_iadd C0 32 dX5_worthOf_32 ?_
      refine r_istore_n (lv' := [(0, _), (1, _), (2, _), (3, _)]) C0 33 2 dX5_worthOf_33 rfl rfl (by decide) rfl ?_
      refine r_iinc (lv' := [(0, _), (1, _), (2, _), (3, _)]) C0 34 _ dX5_worthOf_34 rfl rfl rfl (by decide) rfl ?_
      refine r_goto C0 37 4 dX5_worthOf_37 (by decide) ?_
      simpa [worthN, wo1, bitN, nI_1, *] using ih hlt
    · refine r_aload_n C0 22 0 dX5_worthOf_22 rfl rfl ?_
      refine m_getA C0 23 33 (by decide) fl5_92 rfl dX5_worthOf_23 ?_
      refine r_iload_n C0 26 3 dX5_worthOf_26 rfl rfl ?_
      refine m_ld C0 27 i rfl rfl (show i < 6 by omega) dX5_worthOf_27 ?_
      refine r_goto C0 28 32 dX5_worthOf_28 (by decide) ?_
      refine r_iadd C0 32 dX5_worthOf_32 ?_
      refine r_istore_n (lv' := [(0, _), (1, _), (2, _), (3, _)]) C0 33 2 dX5_worthOf_33 rfl rfl (by decide) rfl ?_
      refine r_iinc (lv' := [(0, _), (1, _), (2, _), (3, _)]) C0 34 _ dX5_worthOf_34 rfl rfl rfl (by decide) rfl ?_
      refine r_goto C0 37 4 dX5_worthOf_37 (by decide) ?_
      simpa [worthN, wo1, bitN, nI_1, *] using ih hlt
set_option maxRecDepth 100000 in
theorem k5_canServe (hX : Xok X) {P O : Nat} (hP : M 21 0 = nI P) (hP6 : P ≤ 60) (hO : M 30 0 = nI O) (hO6 : O ≤ 6) (z : Int32)  : Cn D ar X yX5_canServe cX5_canServe 6 (some .boolean) 2 44 0 0 [.ref h1, .int z] (mW ar h1 ad M T) (fun r w => r = some (.int (canB M z P O O)) ∧ w = mW ar h1 ad M T) := by
  refine Cn.of (own := RX5) hX (by decide) rfl (Nat.le_of_ble_eq_true rfl) (fun j C => ?_)
  have C0 := C.to
  show j _ 0 0 0 [(0, _), (1, _)] []
  refine r_iconst C0 0 1 dX5_canServe_0 (by decide) ?_
  refine r_istore_n (lv' := [(0, _), (1, _), (2, _)]) C0 1 2 dX5_canServe_1 rfl rfl (by decide) rfl ?_
  refine r_iconst C0 2 0 dX5_canServe_2 (by decide) ?_
  refine r_istore_n (lv' := [(0, _), (1, _), (2, _), (3, _)]) C0 3 3 dX5_canServe_3 rfl rfl (by decide) rfl ?_
  refine loopUp (P := 6) (f := fun g => j (mW ar h1 ad M T) 0 0 4 [(0, .ref h1), (1, .int z), (2, .int (canA M z P O g)), (3, .int (nI g))] []) (fun g hi ih => ?_) 0 (Nat.zero_le _)
  refine r_iload_n C0 4 3 dX5_canServe_4 rfl rfl ?_
  refine r_bipush C0 5 6 dX5_canServe_5 (by decide) ?_
  refine r_icmp_ge C0 7 94 dX5_canServe_7 (by decide) (fun c_7 => ?_) (fun c_7 => ?_)
  · have hge : 6 ≤ g := (nI_leI (a := 6) (by omega) (by omega)).mp c_7
    refine r_iconst C0 94 0 dX5_canServe_94 (by decide) ?_
    refine r_istore_n (lv' := [(0, _), (1, _), (2, _), (3, _)]) C0 95 3 dX5_canServe_95 rfl rfl (by decide) rfl ?_
    have e8 : g = 6 := by omega
    subst e8
    refine loopUp (P := O) (f := fun i => j (mW ar h1 ad M T) 0 0 96 [(0, .ref h1), (1, .int z), (2, .int (canB M z P O i)), (3, .int (nI i))] []) (fun i hi ih2 => ?_) 0 (Nat.zero_le _)
    refine r_iload_n C0 96 3 dX5_canServe_96 rfl rfl ?_
    refine r_aload_n C0 97 0 dX5_canServe_97 rfl rfl ?_
    refine m_getI C0 98 30 rfl fl5_175 rfl dX5_canServe_98 ?_
    refine r_icmp_ge C0 101 137 dX5_canServe_101 (by decide) (fun c_101 => ?_) (fun c_101 => ?_)
    · have hge : O ≤ i := (nI_leI (by omega) (by omega)).mp (by rw [← hO]; exact c_101)
      refine r_iload_n C0 137 2 dX5_canServe_137 rfl rfl ?_
      refine r_zret C 138 (nar01 canB_01) dX5_canServe_138 (Nat.le_refl _) (Nat.le_refl _) ?_
      have e9 : i = O := by omega
      subst e9
      exact ⟨rfl, rfl⟩
    · have hlt : i < O := Nat.lt_of_not_le (fun q => c_101 (by rw [hO]; exact nI_le q (by omega)))
      refine r_iload_n C0 104 2 dX5_canServe_104 rfl rfl ?_
      refine r_if_eq C0 105 129 dX5_canServe_105 (by decide) (fun c_105 => ?_) (fun c_105 => ?_)
      · refine r_iconst C0 129 0 dX5_canServe_129 (by decide) ?_
        refine r_istore_n (lv' := [(0, _), (1, _), (2, _), (3, _)]) C0 130 2 dX5_canServe_130 rfl rfl (by decide) rfl ?_
        refine r_iinc (lv' := [(0, _), (1, _), (2, _), (3, _)]) C0 131 _ dX5_canServe_131 rfl rfl rfl (by decide) rfl ?_
        refine r_goto C0 134 96 dX5_canServe_134 (by decide) ?_
        simpa [canB, can2, bitN, nI_1, *] using ih2 hlt
      · refine r_iload_n C0 108 1 dX5_canServe_108 rfl rfl ?_
        refine r_iload_n C0 109 3 dX5_canServe_109 rfl rfl ?_
        refine r_ishr C0 110 dX5_canServe_110 ?_
        refine r_iconst C0 111 1 dX5_canServe_111 (by decide) ?_
        refine r_iand C0 112 dX5_canServe_112 ?_
        refine r_if_eq C0 113 125 dX5_canServe_113 (by decide) (fun c_113 => ?_) (fun c_113 => ?_)
        · refine r_iconst C0 125 1 dX5_canServe_125 (by decide) ?_
          refine r_goto C0 126 130 dX5_canServe_126 (by decide) ?_
          refine r_istore_n (lv' := [(0, _), (1, _), (2, _), (3, _)]) C0 130 2 dX5_canServe_130 rfl rfl (by decide) rfl ?_
          refine r_iinc (lv' := [(0, _), (1, _), (2, _), (3, _)]) C0 131 _ dX5_canServe_131 rfl rfl rfl (by decide) rfl ?_
          refine r_goto C0 134 96 dX5_canServe_134 (by decide) ?_
          simpa [canB, can2, bitN, nI_1, *] using ih2 hlt
        · refine r_aload_n C0 116 0 dX5_canServe_116 rfl rfl ?_
          refine m_getA C0 117 34 (by decide) fl5_95 rfl dX5_canServe_117 ?_
          refine r_iload_n C0 120 3 dX5_canServe_120 rfl rfl ?_
          refine m_ldz C0 121 i rfl rfl (show i < 6 by omega) dX5_canServe_121 ?_
          refine r_if_ne C0 122 129 dX5_canServe_122 (by decide) (fun c_122 => ?_) (fun c_122 => ?_)
          · refine r_iconst C0 129 0 dX5_canServe_129 (by decide) ?_
            refine r_istore_n (lv' := [(0, _), (1, _), (2, _), (3, _)]) C0 130 2 dX5_canServe_130 rfl rfl (by decide) rfl ?_
            refine r_iinc (lv' := [(0, _), (1, _), (2, _), (3, _)]) C0 131 _ dX5_canServe_131 rfl rfl rfl (by decide) rfl ?_
            refine r_goto C0 134 96 dX5_canServe_134 (by decide) ?_
            simpa [canB, can2, bitN, nI_1, *] using ih2 hlt
          · refine r_iconst C0 125 1 dX5_canServe_125 (by decide) ?_
            refine r_goto C0 126 130 dX5_canServe_126 (by decide) ?_
            refine r_istore_n (lv' := [(0, _), (1, _), (2, _), (3, _)]) C0 130 2 dX5_canServe_130 rfl rfl (by decide) rfl ?_
            refine r_iinc (lv' := [(0, _), (1, _), (2, _), (3, _)]) C0 131 _ dX5_canServe_131 rfl rfl rfl (by decide) rfl ?_
            refine r_goto C0 134 96 dX5_canServe_134 (by decide) ?_
            simpa [canB, can2, bitN, nI_1, *] using ih2 hlt
  · have hlt : g < 6 := Nat.lt_of_not_le (fun q => c_7 (nI_le (a := 6) q (by omega)))
    refine r_iconst C0 10 0 dX5_canServe_10 (by decide) ?_
    refine r_istore (lv' := [(0, _), (1, _), (2, _), (3, _), (4, _)]) C0 11 dX5_canServe_11 rfl (by decide) rfl ?_
    refine r_iconst C0 13 0 dX5_canServe_13 (by decide) ?_
    refine r_istore (lv' := [(0, _), (1, _), (2, _), (3, _), (4, _), (5, _)]) C0 14 dX5_canServe_14 rfl (by decide) rfl ?_
    refine loopUp (P := O) (f := fun i => j (mW ar h1 ad M T) 0 0 16 [(0, .ref h1), (1, .int z), (2, .int (canA M z P O g)), (3, .int (nI g)), (4, .int (wantN M z (nI g) i)), (5, .int (nI i))] []) (fun i hi ihi => ?_) 0 (Nat.zero_le _)
    refine r_iload C0 16 dX5_canServe_16 rfl ?_
    refine r_aload_n C0 18 0 dX5_canServe_18 rfl rfl ?_
    refine m_getI C0 19 30 rfl fl5_175 rfl dX5_canServe_19 ?_
    refine r_icmp_ge C0 22 68 dX5_canServe_22 (by decide) (fun c_22 => ?_) (fun c_22 => ?_)
    · have hge : O ≤ i := (nI_leI (by omega) (by omega)).mp (by rw [← hO]; exact c_22)
      have e9 : i = O := by omega
      subst e9
      refine r_iload_n C0 68 2 dX5_canServe_68 rfl rfl ?_
      refine r_if_eq C0 69 86 dX5_canServe_69 (by decide) (fun c_69 => ?_) (fun c_69 => ?_)
      · refine r_iconst C0 86 0 dX5_canServe_86 (by decide) ?_
        refine r_istore_n (lv' := [(0, _), (1, _), (2, _), (3, _), (4, _), (5, _)]) C0 87 2 dX5_canServe_87 rfl rfl (by decide) rfl ?_
        refine r_iinc (lv' := [(0, _), (1, _), (2, _), (3, _), (4, _), (5, _)]) C0 88 _ dX5_canServe_88 rfl rfl rfl (by decide) rfl ?_
        refine r_goto C0 91 4 dX5_canServe_91 (by decide) ?_
        have h9 := ih hlt
        refine r_drop C0 ?_ h9
        simp [canA, can1, nI_1, *]
      · refine r_iload C0 72 dX5_canServe_72 rfl ?_
        refine r_aload_n C0 74 0 dX5_canServe_74 rfl rfl ?_
        refine r_iload_n C0 75 3 dX5_canServe_75 rfl rfl ?_
        refine m_call (As := [.int _]) C0 76 1 (k5_freeOf hX hP hP6 _) (rm5_freeOf (by decide) (by decide) (Nat.le_refl _) (Nat.le_refl _)) ml5_172 im5_freeOf se5_freeOf rfl (Nat.le_of_ble_eq_true rfl) dX5_canServe_76 ?_
        rintro _ _ ⟨rfl, rfl⟩
        refine r_icmp_gt C0 79 86 dX5_canServe_79 (by decide) (fun c_79 => ?_) (fun c_79 => ?_)
        · refine r_iconst C0 86 0 dX5_canServe_86 (by decide) ?_
          refine r_istore_n (lv' := [(0, _), (1, _), (2, _), (3, _), (4, _), (5, _)]) C0 87 2 dX5_canServe_87 rfl rfl (by decide) rfl ?_
          refine r_iinc (lv' := [(0, _), (1, _), (2, _), (3, _), (4, _), (5, _)]) C0 88 _ dX5_canServe_88 rfl rfl rfl (by decide) rfl ?_
          refine r_goto C0 91 4 dX5_canServe_91 (by decide) ?_
          have h9 := ih hlt
          refine r_drop C0 ?_ h9
          simp [canA, can1, nI_1, *]
        · refine r_iconst C0 82 1 dX5_canServe_82 (by decide) ?_
          refine r_goto C0 83 87 dX5_canServe_83 (by decide) ?_
          refine r_istore_n (lv' := [(0, _), (1, _), (2, _), (3, _), (4, _), (5, _)]) C0 87 2 dX5_canServe_87 rfl rfl (by decide) rfl ?_
          refine r_iinc (lv' := [(0, _), (1, _), (2, _), (3, _), (4, _), (5, _)]) C0 88 _ dX5_canServe_88 rfl rfl rfl (by decide) rfl ?_
          refine r_goto C0 91 4 dX5_canServe_91 (by decide) ?_
          have h9 := ih hlt
          refine r_drop C0 ?_ h9
          simp [canA, can1, nI_1, *]
    · have hlti : i < O := Nat.lt_of_not_le (fun q => c_22 (by rw [hO]; exact nI_le q (by omega)))
      refine r_iload C0 25 dX5_canServe_25 rfl ?_
      refine r_iload_n C0 27 1 dX5_canServe_27 rfl rfl ?_
      refine r_iload C0 28 dX5_canServe_28 rfl ?_
      refine r_ishr C0 30 dX5_canServe_30 ?_
      refine r_iconst C0 31 1 dX5_canServe_31 (by decide) ?_
      refine r_iand C0 32 dX5_canServe_32 ?_
      refine r_iconst C0 33 1 dX5_canServe_33 (by decide) ?_
      refine r_icmp_ne C0 34 58 dX5_canServe_34 (by decide) (fun c_34 => ?_) (fun c_34 => ?_)
      · refine r_iconst C0 58 0 dX5_canServe_58 (by decide) ?_
        refine r_iadd C0 59 dX5_canServe_59 ?_
        refine r_istore (lv' := [(0, _), (1, _), (2, _), (3, _), (4, _), (5, _)]) C0 60 dX5_canServe_60 rfl (by decide) rfl ?_
        refine r_iinc (lv' := [(0, _), (1, _), (2, _), (3, _), (4, _), (5, _)]) C0 62 _ dX5_canServe_62 rfl rfl rfl (by decide) rfl ?_
        refine r_goto C0 65 16 dX5_canServe_65 (by decide) ?_
        simpa [wantN, wa1, bitN, nI_1, *] using ihi hlti
      · refine r_aload_n C0 37 0 dX5_canServe_37 rfl rfl ?_
        refine m_getA C0 38 31 (by decide) fl5_86 rfl dX5_canServe_38 ?_
        refine r_iload C0 41 dX5_canServe_41 rfl ?_
        refine m_ld C0 43 i rfl rfl (show i < 6 by omega) dX5_canServe_43 ?_
        refine r_iload_n C0 44 3 dX5_canServe_44 rfl rfl ?_
        refine r_icmp_ne C0 45 58 dX5_canServe_45 (by decide) (fun c_45 => ?_) (fun c_45 => ?_)
        · refine r_iconst C0 58 0 dX5_canServe_58 (by decide) ?_
          refine r_iadd C0 59 dX5_canServe_59 ?_
          refine r_istore (lv' := [(0, _), (1, _), (2, _), (3, _), (4, _), (5, _)]) C0 60 dX5_canServe_60 rfl (by decide) rfl ?_
          refine r_iinc (lv' := [(0, _), (1, _), (2, _), (3, _), (4, _), (5, _)]) C0 62 _ dX5_canServe_62 rfl rfl rfl (by decide) rfl ?_
          refine r_goto C0 65 16 dX5_canServe_65 (by decide) ?_
          simpa [wantN, wa1, bitN, nI_1, *] using ihi hlti
        · refine r_aload_n C0 48 0 dX5_canServe_48 rfl rfl ?_
          refine m_getA C0 49 32 (by decide) fl5_89 rfl dX5_canServe_49 ?_
          refine r_iload C0 52 dX5_canServe_52 rfl ?_
          refine m_ld C0 54 i rfl rfl (show i < 6 by omega) dX5_canServe_54 ?_
          refine r_goto C0 55 59 dX5_canServe_55 (by decide) ?_
          refine r_iadd C0 59 dX5_canServe_59 ?_
          refine r_istore (lv' := [(0, _), (1, _), (2, _), (3, _), (4, _), (5, _)]) C0 60 dX5_canServe_60 rfl (by decide) rfl ?_
          refine r_iinc (lv' := [(0, _), (1, _), (2, _), (3, _), (4, _), (5, _)]) C0 62 _ dX5_canServe_62 rfl rfl rfl (by decide) rfl ?_
          refine r_goto C0 65 16 dX5_canServe_65 (by decide) ?_
          simpa [wantN, wa1, bitN, nI_1, *] using ihi hlti
end M6
