/-! the model: bestSet, best, serve, doubts, doubt, hours, clear, about, pack, told, order -/
theorem swc (n : Nat) (hn : n < 2 ^ 30) (x : Int32) : (∃ i : Nat, i < n ∧ x = nI i) ∨ (x.toInt < 0 ∨ (n : Int) - 1 < x.toInt) := by
  by_cases h : x < 0
  · exact Or.inr (Or.inl (by have := Int32.lt_iff_toInt_lt.mp h; simpa using this))
  · obtain ⟨i, hi, e⟩ := nI_of h
    by_cases h2 : i < n
    · exact Or.inl ⟨i, h2, e⟩
    · refine Or.inr (Or.inr ?_)
      rw [e, nI_toInt hi]
      omega
theorem swn {x c : Int32} {n : Nat} (h : x.toInt < 0 ∨ (n : Int) - 1 < x.toInt) (hc : 0 ≤ c.toInt ∧ c.toInt < n) : ¬ x = c := fun e => by
  subst e
  omega
def seq1 (M : Nat → Nat → Int32) (g o : Int32) (p : Nat) (s : (Nat → Nat → Int32) × Int32 × Int32) : (Nat → Nat → Int32) × Int32 × Int32 :=
  if s.2.1 ≤ 0 then s else if s.1 22 p = g then if isFr s.1 p = 0 then s else (up2 s.1 28 p o, s.2.1 + -1, s.2.2 + 1) else s
/-- one order served: the packs' owners, what it still wants, how many were sold in all -/
def selN (M : Nat → Nat → Int32) (g o lf sd : Int32) : Nat → (Nat → Nat → Int32) × Int32 × Int32
  | 0 => (M, lf, sd)
  | p + 1 => seq1 M g o p (selN M g o lf sd p)
/-- the orders of a set served, one by one -/
def serN (M : Nat → Nat → Int32) (z : Int32) (P : Nat) : Nat → (Nat → Nat → Int32) × Int32
  | 0 => (M, 0)
  | o + 1 => let s := serN M z P o
    if bitN z o = 1 then (up2 (selN s.1 (s.1 31 o) (nI o) (s.1 32 o) s.2 P).1 34 o 1, (selN s.1 (s.1 31 o) (nI o) (s.1 32 o) s.2 P).2.2) else s
def hd1 (M : Nat → Nat → Int32) (p : Nat) (hold : Int32) : Int32 := if M 29 p = 0 then if hold = 0 then 0 else if M 28 p = -9 then 1 else 0 else 1
def db1 (b f t hold : Int32) (p : Nat) (s : (Nat → Nat → Int32) × Int32) : (Nat → Nat → Int32) × Int32 :=
  if s.1 23 p &&& b = 0 then s else if t < s.1 24 p then s else if s.1 25 p < f then s else (up2 s.1 29 p (hd1 s.1 p hold), s.2 + 1)
def dbN (M : Nat → Nat → Int32) (b f t hold : Int32) : Nat → (Nat → Nat → Int32) × Int32
  | 0 => (M, 0)
  | p + 1 => db1 b f t hold p (dbN M b f t hold p)
def bestS (M : Nat → Nat → Int32) (P O : Nat) : Int32 := bestN M P O (2 ^ O - 1)
def bestA (M : Nat → Nat → Int32) (P O : Nat) (wh : Int32) : Int32 := if inR wh 0 1 = 0 then -1 else if wh = 0 then bestS M P O else worthN M (bestS M P O) O
def dbtA (M : Nat → Nat → Int32) (P : Nat) (b hold : Int32) : (Nat → Nat → Int32) × Int32 := if inR b 0 3 = 0 then (M, -1) else dbN M (1 <<< (b &&& 31)) 0 (M 35 0) hold P
def hrsA (M : Nat → Nat → Int32) (P : Nat) (f t hold : Int32) : (Nat → Nat → Int32) × Int32 := if f < 0 then (M, -1) else if f ≤ t then dbN M 15 f t hold P else (M, -1)
def clrA (M : Nat → Nat → Int32) (p : Int32) : (Nat → Nat → Int32) × Int32 := if inR p 0 (M 21 0 - 1) = 0 then (M, -1) else if M 29 p.toNatClampNeg = 0 then (M, -2) else (up2 M 29 p.toNatClampNeg 0, 1)
def abtA (M : Nat → Nat → Int32) (o wh : Int32) : Int32 := if inR o 0 (M 30 0 - 1) = 0 then -1 else if wh = 0 then M 31 o.toNatClampNeg else if wh = 1 then M 32 o.toNatClampNeg else if wh = 2 then M 33 o.toNatClampNeg else if wh = 3 then if M 34 o.toNatClampNeg = 0 then 0 else 1 else -1
def pckA (M : Nat → Nat → Int32) (p wh : Int32) : Int32 := if inR p 0 (M 21 0 - 1) = 0 then -1 else if wh = 0 then M 22 p.toNatClampNeg else if wh = 1 then M 23 p.toNatClampNeg else if wh = 2 then M 24 p.toNatClampNeg else if wh = 3 then M 25 p.toNatClampNeg else if wh = 4 then M 28 p.toNatClampNeg else if wh = 5 then if M 29 p.toNatClampNeg = 0 then 0 else 1 else if wh = 6 then M 26 p.toNatClampNeg else if wh = 7 then M 27 p.toNatClampNeg else -1
def sldN (M : Nat → Nat → Int32) : Nat → Int32
  | 0 => 0
  | p + 1 => sldN M p + (if M 28 p = -9 then 0 else 1)
def hldN (M : Nat → Nat → Int32) : Nat → Int32
  | 0 => 0
  | p + 1 => hldN M p + (if M 29 p = 0 then 0 else 1)
def tldA (M : Nat → Nat → Int32) (P : Nat) (wh : Int32) : Int32 := if wh = 0 then M 21 0 else if wh = 1 then M 30 0 else if wh = 2 then sldN M P else if wh = 3 then hldN M P else if wh = 4 then M 35 0 else if wh = 5 then M 36 0 else -1000
def ordA (M : Nat → Nat → Int32) (O : Nat) (g n w : Int32) : (Nat → Nat → Int32) × Int32 := if inR g 0 5 = 0 then (M, -1) else if inR n 1 9 = 0 then (M, -1) else if inR w 1 1000 = 0 then (M, -1) else if M 30 0 = 6 then (M, -3) else (up2 (up2 (up2 (up2 (up2 M 31 O g) 32 O n) 33 O w) 34 O 0) 30 0 (M 30 0 + 1), M 30 0 + 1 - 1)

section M7
variable {D : va_G} {ar : Nat → ClassId} {X : XT} {h1 : Nat} {ad : Nat → Nat} {M : Nat → Nat → Int32} {T : Int64}
theorem k5_bestSet (hX : Xok X) {P O : Nat} (hP : M 21 0 = nI P) (hP6 : P ≤ 60) (hO : M 30 0 = nI O) (hO6 : O ≤ 6)  : Cn D ar X yX5_bestSet cX5_bestSet 3 (some .int) 3 69 0 0 [.ref h1] (mW ar h1 ad M T) (fun r w => r = some (.int (bestS M P O)) ∧ w = mW ar h1 ad M T) := by
  refine Cn.of (own := RX5) hX (by decide) rfl (Nat.le_of_ble_eq_true rfl) (fun j C => ?_)
  have C0 := C.to
  show j _ 0 0 0 [(0, _)] []
  have hp6 := pow6 hO6
  have hsh : (1 : Int32) <<< (M 30 0 &&& 31) = nI (2 ^ O) := by rw [hO]; exact shl6 hO6
  refine r_iconst C0 0 0 dX5_bestSet_0 (by decide) ?_
  refine r_istore_n (lv' := [(0, _), (1, _)]) C0 1 1 dX5_bestSet_1 rfl rfl (by decide) rfl ?_
  refine r_iconst C0 2 1 dX5_bestSet_2 (by decide) ?_
  refine r_istore_n (lv' := [(0, _), (1, _), (2, _)]) C0 3 2 dX5_bestSet_3 rfl rfl (by decide) rfl ?_
  refine loopUp (P := (2 ^ O - 1)) (f := fun i => j (mW ar h1 ad M T) 0 0 4 [(0, .ref h1), (1, .int (bestN M P O i)), (2, .int (nI (i + 1)))] []) (fun i hi ih => ?_) 0 (Nat.zero_le _)
  refine r_iload_n C0 4 2 dX5_bestSet_4 rfl rfl ?_
  refine r_iconst C0 5 1 dX5_bestSet_5 (by decide) ?_
  refine r_aload_n C0 6 0 dX5_bestSet_6 rfl rfl ?_
  refine m_getI C0 7 30 rfl fl5_175 rfl dX5_bestSet_7 ?_
  refine r_ishl C0 10 dX5_bestSet_10 ?_
  refine r_icmp_ge C0 11 47 dX5_bestSet_11 (by decide) (fun c_11 => ?_) (fun c_11 => ?_)
  · have hge : 2 ^ O ≤ i + 1 := (nI_leI (by omega) (by omega)).mp (by rw [← hsh]; exact c_11)
    refine r_iload_n C0 47 1 dX5_bestSet_47 rfl rfl ?_
    refine r_iret C 48 dX5_bestSet_48 (Nat.le_refl _) (Nat.le_refl _) ?_
    have e : i = 2 ^ O - 1 := by omega
    subst e
    exact ⟨rfl, rfl⟩
  · have hlt : i + 1 < 2 ^ O := Nat.lt_of_not_le (fun q => c_11 (by rw [hsh]; exact nI_le q (by omega)))
    refine r_aload_n C0 14 0 dX5_bestSet_14 rfl rfl ?_
    refine r_iload_n C0 15 2 dX5_bestSet_15 rfl rfl ?_
    refine m_call (As := [.int _]) C0 16 1 (k5_canServe hX hP hP6 hO hO6 _) (rm5_canServe (by decide) (by decide) (Nat.le_refl _) (Nat.le_refl _)) ml5_178 im5_canServe se5_canServe rfl (Nat.le_of_ble_eq_true rfl) dX5_bestSet_16 ?_
    rintro _ _ ⟨rfl, rfl⟩
    refine r_if_eq C0 19 39 dX5_bestSet_19 (by decide) (fun c_19 => ?_) (fun c_19 => ?_)
    · refine r_iload_n C0 39 1 dX5_bestSet_39 rfl rfl ?_
      refine r_istore_n (lv' := [(0, _), (1, _), (2, _)]) C0 40 1 dX5_bestSet_40 rfl rfl (by decide) rfl ?_
      refine r_iinc (lv' := [(0, _), (1, _), (2, _)]) C0 41 _ dX5_bestSet_41 rfl rfl rfl (by decide) rfl ?_
      refine r_goto C0 44 4 dX5_bestSet_44 (by decide) ?_
      simpa [bestN, bs1, nI_1, *] using ih (by omega)
    · refine r_aload_n C0 22 0 dX5_bestSet_22 rfl rfl ?_
      refine r_iload_n C0 23 2 dX5_bestSet_23 rfl rfl ?_
      refine m_call (As := [.int _]) C0 24 1 (k5_worthOf hX hO hO6 _) (rm5_worthOf (by decide) (by decide) (Nat.le_refl _) (Nat.le_refl _)) ml5_181 im5_worthOf se5_worthOf rfl (Nat.le_of_ble_eq_true rfl) dX5_bestSet_24 ?_
      rintro _ _ ⟨rfl, rfl⟩
      refine r_aload_n C0 27 0 dX5_bestSet_27 rfl rfl ?_
      refine r_iload_n C0 28 1 dX5_bestSet_28 rfl rfl ?_
      refine m_call (As := [.int _]) C0 29 1 (k5_worthOf hX hO hO6 _) (rm5_worthOf (by decide) (by decide) (Nat.le_refl _) (Nat.le_refl _)) ml5_181 im5_worthOf se5_worthOf rfl (Nat.le_of_ble_eq_true rfl) dX5_bestSet_29 ?_
      rintro _ _ ⟨rfl, rfl⟩
      refine r_icmp_le C0 32 39 dX5_bestSet_32 (by decide) (fun c_32 => ?_) (fun c_32 => ?_)
      · refine r_iload_n C0 39 1 dX5_bestSet_39 rfl rfl ?_
        refine r_istore_n (lv' := [(0, _), (1, _), (2, _)]) C0 40 1 dX5_bestSet_40 rfl rfl (by decide) rfl ?_
        refine r_iinc (lv' := [(0, _), (1, _), (2, _)]) C0 41 _ dX5_bestSet_41 rfl rfl rfl (by decide) rfl ?_
        refine r_goto C0 44 4 dX5_bestSet_44 (by decide) ?_
        simpa [bestN, bs1, nI_1, *] using ih (by omega)
      · refine r_iload_n C0 35 2 dX5_bestSet_35 rfl rfl ?_
        refine r_goto C0 36 40 dX5_bestSet_36 (by decide) ?_
        refine r_istore_n (lv' := [(0, _), (1, _), (2, _)]) C0 40 1 dX5_bestSet_40 rfl rfl (by decide) rfl ?_
        refine r_iinc (lv' := [(0, _), (1, _), (2, _)]) C0 41 _ dX5_bestSet_41 rfl rfl rfl (by decide) rfl ?_
        refine r_goto C0 44 4 dX5_bestSet_44 (by decide) ?_
        simpa [bestN, bs1, nI_1, *] using ih (by omega)
theorem k5_best (hX : Xok X) {P O : Nat} (hP : M 21 0 = nI P) (hP6 : P ≤ 60) (hO : M 30 0 = nI O) (hO6 : O ≤ 6) (wh : Int32)  : Cn D ar X yX5_best cX5_best 2 (some .int) 4 91 0 0 [.ref h1, .int wh] (mW ar h1 ad M T) (fun r w => r = some (.int (bestA M P O wh)) ∧ w = mW ar h1 ad M T) := by
  refine Cn.of (own := RX5) hX (by decide) rfl (Nat.le_of_ble_eq_true rfl) (fun j C => ?_)
  have C0 := C.to
  show j _ 0 0 0 [(0, _), (1, _)] []
  refine r_iload_n C0 0 1 dX5_best_0 rfl rfl ?_
  refine r_iconst C0 1 0 dX5_best_1 (by decide) ?_
  refine r_iconst C0 2 1 dX5_best_2 (by decide) ?_
  refine s_call (As := [.int _, .int _, .int _]) C0 3 3 (k5_in hX _ _ _ _) (rm5_in (by decide) (by decide) (Nat.le_refl _) (Nat.le_refl _)) ml5_102 st5_in rfl (Nat.le_of_ble_eq_true rfl) dX5_best_3 ?_
  rintro _ _ ⟨rfl, rfl⟩
  refine r_if_ne C0 6 13 dX5_best_6 (by decide) (fun c_6 => ?_) (fun c_6 => ?_)
  · refine r_iload_n C0 13 1 dX5_best_13 rfl rfl ?_
    refine r_if_ne C0 14 24 dX5_best_14 (by decide) (fun c_14 => ?_) (fun c_14 => ?_)
    · refine r_aload_n C0 24 0 dX5_best_24 rfl rfl ?_
      refine r_aload_n C0 25 0 dX5_best_25 rfl rfl ?_
      refine m_call (As := []) C0 26 0 (k5_bestSet hX hP hP6 hO hO6) (rm5_bestSet (by decide) (by decide) (Nat.le_refl _) (Nat.le_refl _)) ml5_184 im5_bestSet se5_bestSet rfl (Nat.le_of_ble_eq_true rfl) dX5_best_26 ?_
      rintro _ _ ⟨rfl, rfl⟩
      refine m_call (As := [.int _]) C0 29 1 (k5_worthOf hX hO hO6 _) (rm5_worthOf (by decide) (by decide) (Nat.le_refl _) (Nat.le_refl _)) ml5_181 im5_worthOf se5_worthOf rfl (Nat.le_of_ble_eq_true rfl) dX5_best_29 ?_
      rintro _ _ ⟨rfl, rfl⟩
      refine r_iret C 32 dX5_best_32 (Nat.le_refl _) (Nat.le_refl _) ?_
      exact ⟨by simp [bestA, eq_false c_6, eq_false c_14], rfl⟩
    · refine r_aload_n C0 17 0 dX5_best_17 rfl rfl ?_
      refine m_call (As := []) C0 18 0 (k5_bestSet hX hP hP6 hO hO6) (rm5_bestSet (by decide) (by decide) (Nat.le_refl _) (Nat.le_refl _)) ml5_184 im5_bestSet se5_bestSet rfl (Nat.le_of_ble_eq_true rfl) dX5_best_18 ?_
      rintro _ _ ⟨rfl, rfl⟩
      refine r_goto C0 21 32 dX5_best_21 (by decide) ?_
      refine r_iret C 32 dX5_best_32 (Nat.le_refl _) (Nat.le_refl _) ?_
      exact ⟨by simp [bestA, eq_false c_6, eq_true c_14], rfl⟩
  · refine r_iconst C0 9 (-1) dX5_best_9 (by decide) ?_
    refine r_goto C0 10 32 dX5_best_10 (by decide) ?_
    refine r_iret C 32 dX5_best_32 (Nat.le_refl _) (Nat.le_refl _) ?_
    exact ⟨by simp [bestA, eq_true c_6], rfl⟩
theorem k5_doubts (hX : Xok X) {P : Nat} (hP : M 21 0 = nI P) (hP6 : P ≤ 60) (b f t hold : Int32)  : Cn D ar X yX5_doubts cX5_doubts 7 (some .int) 0 0 0 0 [.ref h1, .int b, .int f, .int t, .int hold] (mW ar h1 ad M T) (fun r w => r = some (.int (dbN M b f t hold P).2) ∧ w = mW ar h1 ad (dbN M b f t hold P).1 T) := by
  refine Cn.of (own := RX5) hX (by decide) rfl (Nat.le_of_ble_eq_true rfl) (fun j C => ?_)
  have C0 := C.to
  show j _ 0 0 0 [(0, _), (1, _), (2, _), (3, _), (4, _)] []
  have hP9 : ∀ i, (dbN M b f t hold i).1 21 0 = nI P := fun i => by
    induction i with
    | zero => exact hP
    | succ i ih =>
      show (db1 b f t hold i (dbN M b f t hold i)).1 21 0 = nI P
      unfold db1
      split
      · exact ih
      · split
        · exact ih
        · split
          · exact ih
          · exact ih
  refine r_iconst C0 0 0 dX5_doubts_0 (by decide) ?_
  refine r_istore (lv' := [(0, _), (1, _), (2, _), (3, _), (4, _), (5, _)]) C0 1 dX5_doubts_1 rfl (by decide) rfl ?_
  refine r_iconst C0 3 0 dX5_doubts_3 (by decide) ?_
  refine r_istore (lv' := [(0, _), (1, _), (2, _), (3, _), (4, _), (5, _), (6, _)]) C0 4 dX5_doubts_4 rfl (by decide) rfl ?_
  refine loopUp (P := P) (f := fun i => j (mW ar h1 ad (dbN M b f t hold i).1 T) 0 0 6 [(0, .ref h1), (1, .int b), (2, .int f), (3, .int t), (4, .int hold), (5, .int (dbN M b f t hold i).2), (6, .int (nI i))] []) (fun i hi ih => ?_) 0 (Nat.zero_le _)
  refine r_iload C0 6 dX5_doubts_6 rfl ?_
  refine r_aload_n C0 8 0 dX5_doubts_8 rfl rfl ?_
  refine m_getI C0 9 21 rfl fl5_135 rfl dX5_doubts_9 ?_
  refine r_icmp_ge C0 12 97 dX5_doubts_12 (by decide) (fun c_12 => ?_) (fun c_12 => ?_)
  · have hge : P ≤ i := (nI_leI (by omega) (by omega)).mp (by rw [← hP9 i]; exact c_12)
    refine r_iload C0 97 dX5_doubts_97 rfl ?_
    refine r_iret C 99 dX5_doubts_99 (Nat.le_refl _) (Nat.le_refl _) ?_
    have e : i = P := by omega
    subst e
    exact ⟨rfl, rfl⟩
  · have hlt : i < P := Nat.lt_of_not_le (fun q => c_12 (by rw [hP9 i]; exact nI_le q (by omega)))
    refine r_aload_n C0 15 0 dX5_doubts_15 rfl rfl ?_
    refine m_getA C0 16 23 (by decide) fl5_65 rfl dX5_doubts_16 ?_
    refine r_iload C0 19 dX5_doubts_19 rfl ?_
    refine m_ld C0 21 i rfl rfl (show i < 60 by omega) dX5_doubts_21 ?_
    refine r_iload_n C0 22 1 dX5_doubts_22 rfl rfl ?_
    refine r_iand C0 23 dX5_doubts_23 ?_
    refine r_if_eq C0 24 91 dX5_doubts_24 (by decide) (fun c_24 => ?_) (fun c_24 => ?_)
    · refine r_iinc (lv' := [(0, _), (1, _), (2, _), (3, _), (4, _), (5, _), (6, _)]) C0 91 _ dX5_doubts_91 rfl rfl rfl (by decide) rfl ?_
      refine r_goto C0 94 6 dX5_doubts_94 (by decide) ?_
      have h9 := ih hlt
      simp only [dbN, db1, hd1, eq_false c_12, eq_true c_24] at h9
      simpa [nI_1] using h9
    · refine r_aload_n C0 27 0 dX5_doubts_27 rfl rfl ?_
      refine m_getA C0 28 24 (by decide) fl5_68 rfl dX5_doubts_28 ?_
      refine r_iload C0 31 dX5_doubts_31 rfl ?_
      refine m_ld C0 33 i rfl rfl (show i < 60 by omega) dX5_doubts_33 ?_
      refine r_iload_n C0 34 3 dX5_doubts_34 rfl rfl ?_
      refine r_icmp_gt C0 35 91 dX5_doubts_35 (by decide) (fun c_35 => ?_) (fun c_35 => ?_)
      · refine r_iinc (lv' := [(0, _), (1, _), (2, _), (3, _), (4, _), (5, _), (6, _)]) C0 91 _ dX5_doubts_91 rfl rfl rfl (by decide) rfl ?_
        refine r_goto C0 94 6 dX5_doubts_94 (by decide) ?_
        have h9 := ih hlt
        simp only [dbN, db1, hd1, eq_false c_12, eq_false c_24, eq_true c_35] at h9
        simpa [nI_1] using h9
      · refine r_aload_n C0 38 0 dX5_doubts_38 rfl rfl ?_
        refine m_getA C0 39 25 (by decide) fl5_71 rfl dX5_doubts_39 ?_
        refine r_iload C0 42 dX5_doubts_42 rfl ?_
        refine m_ld C0 44 i rfl rfl (show i < 60 by omega) dX5_doubts_44 ?_
        refine r_iload_n C0 45 2 dX5_doubts_45 rfl rfl ?_
        refine r_icmp_lt C0 46 91 dX5_doubts_46 (by decide) (fun c_46 => ?_) (fun c_46 => ?_)
        · refine r_iinc (lv' := [(0, _), (1, _), (2, _), (3, _), (4, _), (5, _), (6, _)]) C0 91 _ dX5_doubts_91 rfl rfl rfl (by decide) rfl ?_
          refine r_goto C0 94 6 dX5_doubts_94 (by decide) ?_
          have h9 := ih hlt
          simp only [dbN, db1, hd1, eq_false c_12, eq_false c_24, eq_false c_35, eq_true c_46] at h9
          simpa [nI_1] using h9
        · refine r_iinc (lv' := [(0, _), (1, _), (2, _), (3, _), (4, _), (5, _), (6, _)]) C0 49 _ dX5_doubts_49 rfl rfl rfl (by decide) rfl ?_
          refine r_aload_n C0 52 0 dX5_doubts_52 rfl rfl ?_
          refine m_getA C0 53 29 (by decide) fl5_83 rfl dX5_doubts_53 ?_
          refine r_iload C0 56 dX5_doubts_56 rfl ?_
          refine r_aload_n C0 58 0 dX5_doubts_58 rfl rfl ?_
          refine m_getA C0 59 29 (by decide) fl5_83 rfl dX5_doubts_59 ?_
          refine r_iload C0 62 dX5_doubts_62 rfl ?_
          refine m_ldz C0 64 i rfl rfl (show i < 60 by omega) dX5_doubts_64 ?_
          refine r_if_ne C0 65 85 dX5_doubts_65 (by decide) (fun c_65 => ?_) (fun c_65 => ?_)
          · refine r_iconst C0 85 1 dX5_doubts_85 (by decide) ?_
            refine r_goto C0 86 90 dX5_doubts_86 (by decide) ?_
            refine m_stz C0 90 i rfl rfl (show i < 60 by omega) rfl dX5_doubts_90 ?_
            refine r_iinc (lv' := [(0, _), (1, _), (2, _), (3, _), (4, _), (5, _), (6, _)]) C0 91 _ dX5_doubts_91 rfl rfl rfl (by decide) rfl ?_
            refine r_goto C0 94 6 dX5_doubts_94 (by decide) ?_
            have h9 := ih hlt
            simp only [dbN, db1, hd1, eq_false c_12, eq_false c_24, eq_false c_35, eq_false c_46, eq_false c_65] at h9
            simpa [nI_1] using h9
          · refine r_iload C0 68 dX5_doubts_68 rfl ?_
            refine r_if_eq C0 70 89 dX5_doubts_70 (by decide) (fun c_70 => ?_) (fun c_70 => ?_)
            · refine r_iconst C0 89 0 dX5_doubts_89 (by decide) ?_
              refine m_stz C0 90 i rfl rfl (show i < 60 by omega) rfl dX5_doubts_90 ?_
              refine r_iinc (lv' := [(0, _), (1, _), (2, _), (3, _), (4, _), (5, _), (6, _)]) C0 91 _ dX5_doubts_91 rfl rfl rfl (by decide) rfl ?_
              refine r_goto C0 94 6 dX5_doubts_94 (by decide) ?_
              have h9 := ih hlt
              simp only [dbN, db1, hd1, eq_false c_12, eq_false c_24, eq_false c_35, eq_false c_46, eq_true c_65, eq_true c_70] at h9
              simpa [nI_1] using h9
            · refine r_aload_n C0 73 0 dX5_doubts_73 rfl rfl ?_
              refine m_getA C0 74 28 (by decide) fl5_80 rfl dX5_doubts_74 ?_
              refine r_iload C0 77 dX5_doubts_77 rfl ?_
              refine m_ld C0 79 i rfl rfl (show i < 60 by omega) dX5_doubts_79 ?_
              refine r_bipush C0 80 (-9) dX5_doubts_80 (by decide) ?_
              refine r_icmp_ne C0 82 89 dX5_doubts_82 (by decide) (fun c_82 => ?_) (fun c_82 => ?_)
              · refine r_iconst C0 89 0 dX5_doubts_89 (by decide) ?_
                refine m_stz C0 90 i rfl rfl (show i < 60 by omega) rfl dX5_doubts_90 ?_
                refine r_iinc (lv' := [(0, _), (1, _), (2, _), (3, _), (4, _), (5, _), (6, _)]) C0 91 _ dX5_doubts_91 rfl rfl rfl (by decide) rfl ?_
                refine r_goto C0 94 6 dX5_doubts_94 (by decide) ?_
                have h9 := ih hlt
                simp only [dbN, db1, hd1, eq_false c_12, eq_false c_24, eq_false c_35, eq_false c_46, eq_true c_65, eq_false c_70, eq_false c_82] at h9
                simpa [nI_1] using h9
              · refine r_iconst C0 85 1 dX5_doubts_85 (by decide) ?_
                refine r_goto C0 86 90 dX5_doubts_86 (by decide) ?_
                refine m_stz C0 90 i rfl rfl (show i < 60 by omega) rfl dX5_doubts_90 ?_
                refine r_iinc (lv' := [(0, _), (1, _), (2, _), (3, _), (4, _), (5, _), (6, _)]) C0 91 _ dX5_doubts_91 rfl rfl rfl (by decide) rfl ?_
                refine r_goto C0 94 6 dX5_doubts_94 (by decide) ?_
                have h9 := ih hlt
                simp only [dbN, db1, hd1, eq_false c_12, eq_false c_24, eq_false c_35, eq_false c_46, eq_true c_65, eq_false c_70, eq_true c_82] at h9
                simpa [nI_1] using h9
theorem k5_doubt (hX : Xok X) {P : Nat} (hP : M 21 0 = nI P) (hP6 : P ≤ 60) (b hold : Int32)  : Cn D ar X yX5_doubt cX5_doubt 3 (some .int) 1 26 0 0 [.ref h1, .int b, .int hold] (mW ar h1 ad M T) (fun r w => r = some (.int (dbtA M P b hold).2) ∧ w = mW ar h1 ad (dbtA M P b hold).1 T) := by
  refine Cn.of (own := RX5) hX (by decide) rfl (Nat.le_of_ble_eq_true rfl) (fun j C => ?_)
  have C0 := C.to
  show j _ 0 0 0 [(0, _), (1, _), (2, _)] []
  refine r_iload_n C0 0 1 dX5_doubt_0 rfl rfl ?_
  refine r_iconst C0 1 0 dX5_doubt_1 (by decide) ?_
  refine r_iconst C0 2 3 dX5_doubt_2 (by decide) ?_
  refine s_call (As := [.int _, .int _, .int _]) C0 3 3 (k5_in hX _ _ _ _) (rm5_in (by decide) (by decide) (Nat.le_refl _) (Nat.le_refl _)) ml5_102 st5_in rfl (Nat.le_of_ble_eq_true rfl) dX5_doubt_3 ?_
  rintro _ _ ⟨rfl, rfl⟩
  refine r_if_eq C0 6 25 dX5_doubt_6 (by decide) (fun c_6 => ?_) (fun c_6 => ?_)
  · refine r_iconst C0 25 (-1) dX5_doubt_25 (by decide) ?_
    refine r_iret C 26 dX5_doubt_26 (Nat.le_refl _) (Nat.le_refl _) ?_
    exact ⟨by simp [dbtA, eq_true c_6], by simp [dbtA, eq_true c_6]⟩
  · refine r_aload_n C0 9 0 dX5_doubt_9 rfl rfl ?_
    refine r_iconst C0 10 1 dX5_doubt_10 (by decide) ?_
    refine r_iload_n C0 11 1 dX5_doubt_11 rfl rfl ?_
    refine r_ishl C0 12 dX5_doubt_12 ?_
    refine r_iconst C0 13 0 dX5_doubt_13 (by decide) ?_
    refine r_aload_n C0 14 0 dX5_doubt_14 rfl rfl ?_
    refine m_getI C0 15 35 rfl fl5_98 rfl dX5_doubt_15 ?_
    refine r_iload_n C0 18 2 dX5_doubt_18 rfl rfl ?_
    refine m_call (As := [.int _, .int _, .int _, .int _]) C0 19 4 (k5_doubts hX hP hP6 _ _ _ _) (rm5_doubts (by decide) (by decide) (Nat.le_refl _) (Nat.le_refl _)) ml5_188 im5_doubts se5_doubts rfl (Nat.le_of_ble_eq_true rfl) dX5_doubt_19 ?_
    rintro _ _ ⟨rfl, rfl⟩
    refine r_goto C0 22 26 dX5_doubt_22 (by decide) ?_
    refine r_iret C 26 dX5_doubt_26 (Nat.le_refl _) (Nat.le_refl _) ?_
    exact ⟨by simp [dbtA, eq_false c_6], by simp [dbtA, eq_false c_6]⟩
theorem k5_hours (hX : Xok X) {P : Nat} (hP : M 21 0 = nI P) (hP6 : P ≤ 60) (f t hold : Int32)  : Cn D ar X yX5_hours cX5_hours 4 (some .int) 1 26 0 0 [.ref h1, .int f, .int t, .int hold] (mW ar h1 ad M T) (fun r w => r = some (.int (hrsA M P f t hold).2) ∧ w = mW ar h1 ad (hrsA M P f t hold).1 T) := by
  refine Cn.of (own := RX5) hX (by decide) rfl (Nat.le_of_ble_eq_true rfl) (fun j C => ?_)
  have C0 := C.to
  show j _ 0 0 0 [(0, _), (1, _), (2, _), (3, _)] []
  refine r_iload_n C0 0 1 dX5_hours_0 rfl rfl ?_
  refine r_if_lt C0 1 9 dX5_hours_1 (by decide) (fun c_1 => ?_) (fun c_1 => ?_)
  · refine r_iconst C0 9 (-1) dX5_hours_9 (by decide) ?_
    refine r_goto C0 10 22 dX5_hours_10 (by decide) ?_
    refine r_iret C 22 dX5_hours_22 (Nat.le_refl _) (Nat.le_refl _) ?_
    exact ⟨by simp [hrsA, eq_true c_1], by simp [hrsA, eq_true c_1]⟩
  · refine r_iload_n C0 4 2 dX5_hours_4 rfl rfl ?_
    refine r_iload_n C0 5 1 dX5_hours_5 rfl rfl ?_
    refine r_icmp_ge C0 6 13 dX5_hours_6 (by decide) (fun c_6 => ?_) (fun c_6 => ?_)
    · refine r_aload_n C0 13 0 dX5_hours_13 rfl rfl ?_
      refine r_bipush C0 14 15 dX5_hours_14 (by decide) ?_
      refine r_iload_n C0 16 1 dX5_hours_16 rfl rfl ?_
      refine r_iload_n C0 17 2 dX5_hours_17 rfl rfl ?_
      refine r_iload_n C0 18 3 dX5_hours_18 rfl rfl ?_
      refine m_call (As := [.int _, .int _, .int _, .int _]) C0 19 4 (k5_doubts hX hP hP6 _ _ _ _) (rm5_doubts (by decide) (by decide) (Nat.le_refl _) (Nat.le_refl _)) ml5_188 im5_doubts se5_doubts rfl (Nat.le_of_ble_eq_true rfl) dX5_hours_19 ?_
      rintro _ _ ⟨rfl, rfl⟩
      refine r_iret C 22 dX5_hours_22 (Nat.le_refl _) (Nat.le_refl _) ?_
      exact ⟨by simp [hrsA, eq_false c_1, eq_true c_6], by simp [hrsA, eq_false c_1, eq_true c_6]⟩
    · refine r_iconst C0 9 (-1) dX5_hours_9 (by decide) ?_
      refine r_goto C0 10 22 dX5_hours_10 (by decide) ?_
      refine r_iret C 22 dX5_hours_22 (Nat.le_refl _) (Nat.le_refl _) ?_
      exact ⟨by simp [hrsA, eq_false c_1, eq_false c_6], by simp [hrsA, eq_false c_1, eq_false c_6]⟩
theorem k5_clear (hX : Xok X) {P : Nat} (hP : M 21 0 = nI P) (hP6 : P ≤ 60) (p : Int32)  : Cn D ar X yX5_clear cX5_clear 2 (some .int) 2 43 0 0 [.ref h1, .int p] (mW ar h1 ad M T) (fun r w => r = some (.int (clrA M p).2) ∧ w = mW ar h1 ad (clrA M p).1 T) := by
  refine Cn.of (own := RX5) hX (by decide) rfl (Nat.le_of_ble_eq_true rfl) (fun j C => ?_)
  have C0 := C.to
  show j _ 0 0 0 [(0, _), (1, _)] []
  refine r_aload_n C0 0 0 dX5_clear_0 rfl rfl ?_
  refine r_iload_n C0 1 1 dX5_clear_1 rfl rfl ?_
  refine m_call (As := [.int _]) C0 2 1 (k5_isPack hX _) (rm5_isPack (by decide) (by decide) (Nat.le_refl _) (Nat.le_refl _)) ml5_166 im5_isPack se5_isPack rfl (Nat.le_of_ble_eq_true rfl) dX5_clear_2 ?_
  rintro _ _ ⟨rfl, rfl⟩
  refine r_if_ne C0 5 10 dX5_clear_5 (by decide) (fun c_5 => ?_) (fun c_5 => ?_)
  · rw [hP] at c_5
    obtain ⟨x, hx, rfl⟩ : ∃ x : Nat, x < P ∧ p = nI x := inR_p (by omega) c_5
    have hcl : (nI x).toNatClampNeg = x := nI_clamp (by omega)
    refine r_aload_n C0 10 0 dX5_clear_10 rfl rfl ?_
    refine m_getA C0 11 29 (by decide) fl5_83 rfl dX5_clear_11 ?_
    refine r_iload_n C0 14 1 dX5_clear_14 rfl rfl ?_
    refine m_ldz C0 15 x rfl rfl (show x < 60 by omega) dX5_clear_15 ?_
    refine r_if_ne C0 16 22 dX5_clear_16 (by decide) (fun c_16 => ?_) (fun c_16 => ?_)
    · refine r_aload_n C0 22 0 dX5_clear_22 rfl rfl ?_
      refine m_getA C0 23 29 (by decide) fl5_83 rfl dX5_clear_23 ?_
      refine r_iload_n C0 26 1 dX5_clear_26 rfl rfl ?_
      refine r_iconst C0 27 0 dX5_clear_27 (by decide) ?_
      refine m_stz C0 28 x rfl rfl (show x < 60 by omega) rfl dX5_clear_28 ?_
      refine r_iconst C0 29 1 dX5_clear_29 (by decide) ?_
      refine r_iret C 30 dX5_clear_30 (Nat.le_refl _) (Nat.le_refl _) ?_
      exact ⟨by simp [clrA, hP, hcl, eq_false c_5, eq_false c_16], by simp [clrA, hP, hcl, eq_false c_5, eq_false c_16]⟩
    · refine r_bipush C0 19 (-2) dX5_clear_19 (by decide) ?_
      refine r_iret C 21 dX5_clear_21 (Nat.le_refl _) (Nat.le_refl _) ?_
      exact ⟨by simp [clrA, hP, hcl, eq_false c_5, eq_true c_16], by simp [clrA, hP, hcl, eq_false c_5, eq_true c_16]⟩
  · rw [hP] at c_5
    have hcl : True := trivial
    refine r_iconst C0 8 (-1) dX5_clear_8 (by decide) ?_
    refine r_iret C 9 dX5_clear_9 (Nat.le_refl _) (Nat.le_refl _) ?_
    exact ⟨by simp [clrA, hP, hcl, eq_true c_5], by simp [clrA, hP, hcl, eq_true c_5]⟩
theorem k5_about (hX : Xok X) {O : Nat} (hO : M 30 0 = nI O) (hO6 : O ≤ 6) (o wh : Int32)  : Cn D ar X yX5_about cX5_about 3 (some .int) 1 22 0 0 [.ref h1, .int o, .int wh] (mW ar h1 ad M T) (fun r w => r = some (.int (abtA M o wh)) ∧ w = mW ar h1 ad M T) := by
  refine Cn.of (own := RX5) hX (by decide) rfl (Nat.le_of_ble_eq_true rfl) (fun j C => ?_)
  have C0 := C.to
  show j _ 0 0 0 [(0, _), (1, _), (2, _)] []
  refine r_iload_n C0 0 1 dX5_about_0 rfl rfl ?_
  refine r_iconst C0 1 0 dX5_about_1 (by decide) ?_
  refine r_aload_n C0 2 0 dX5_about_2 rfl rfl ?_
  refine m_getI C0 3 30 rfl fl5_175 rfl dX5_about_3 ?_
  refine r_iconst C0 6 1 dX5_about_6 (by decide) ?_
  refine r_isub C0 7 dX5_about_7 ?_
  refine s_call (As := [.int _, .int _, .int _]) C0 8 3 (k5_in hX _ _ _ _) (rm5_in (by decide) (by decide) (Nat.le_refl _) (Nat.le_refl _)) ml5_102 st5_in rfl (Nat.le_of_ble_eq_true rfl) dX5_about_8 ?_
  rintro _ _ ⟨rfl, rfl⟩
  refine r_if_ne C0 11 16 dX5_about_11 (by decide) (fun c_11 => ?_) (fun c_11 => ?_)
  · rw [hO] at c_11
    obtain ⟨x, hx, rfl⟩ : ∃ x : Nat, x < O ∧ o = nI x := inR_p (by omega) c_11
    have hcl : (nI x).toNatClampNeg = x := nI_clamp (by omega)
    refine r_iload_n C0 16 2 dX5_about_16 rfl rfl ?_
    rcases swc 4 (by decide) wh with ⟨i, hi, rfl⟩ | ho
    · rcases (show i = 0 ∨ i = 1 ∨ i = 2 ∨ i = 3 by omega) with rfl | rfl | rfl | rfl
      · refine r_tableIn C0 17 48 dX5_about_17 (by decide) (by decide) rfl (by decide) ?_
        refine r_aload_n C0 48 0 dX5_about_48 rfl rfl ?_
        refine m_getA C0 49 31 (by decide) fl5_86 rfl dX5_about_49 ?_
        refine r_iload_n C0 52 1 dX5_about_52 rfl rfl ?_
        refine m_ld C0 53 x rfl rfl (show x < 6 by omega) dX5_about_53 ?_
        refine r_iret C 54 dX5_about_54 (Nat.le_refl _) (Nat.le_refl _) ?_
        exact ⟨by simp only [abtA, hO, hcl, eq_false c_11]; rfl, rfl⟩
      · refine r_tableIn C0 17 55 dX5_about_17 (by decide) (by decide) rfl (by decide) ?_
        refine r_aload_n C0 55 0 dX5_about_55 rfl rfl ?_
        refine m_getA C0 56 32 (by decide) fl5_89 rfl dX5_about_56 ?_
        refine r_iload_n C0 59 1 dX5_about_59 rfl rfl ?_
        refine m_ld C0 60 x rfl rfl (show x < 6 by omega) dX5_about_60 ?_
        refine r_iret C 61 dX5_about_61 (Nat.le_refl _) (Nat.le_refl _) ?_
        exact ⟨by simp only [abtA, hO, hcl, eq_false c_11]; rfl, rfl⟩
      · refine r_tableIn C0 17 62 dX5_about_17 (by decide) (by decide) rfl (by decide) ?_
        refine r_aload_n C0 62 0 dX5_about_62 rfl rfl ?_
        refine m_getA C0 63 33 (by decide) fl5_92 rfl dX5_about_63 ?_
        refine r_iload_n C0 66 1 dX5_about_66 rfl rfl ?_
        refine m_ld C0 67 x rfl rfl (show x < 6 by omega) dX5_about_67 ?_
        refine r_iret C 68 dX5_about_68 (Nat.le_refl _) (Nat.le_refl _) ?_
        exact ⟨by simp only [abtA, hO, hcl, eq_false c_11]; rfl, rfl⟩
      · refine r_tableIn C0 17 69 dX5_about_17 (by decide) (by decide) rfl (by decide) ?_
        refine r_aload_n C0 69 0 dX5_about_69 rfl rfl ?_
        refine m_getA C0 70 34 (by decide) fl5_95 rfl dX5_about_70 ?_
        refine r_iload_n C0 73 1 dX5_about_73 rfl rfl ?_
        refine m_ldz C0 74 x rfl rfl (show x < 6 by omega) dX5_about_74 ?_
        refine r_if_eq C0 75 82 dX5_about_75 (by decide) (fun c_75 => ?_) (fun c_75 => ?_)
        · refine r_iconst C0 82 0 dX5_about_82 (by decide) ?_
          refine r_iret C 83 dX5_about_83 (Nat.le_refl _) (Nat.le_refl _) ?_
          exact ⟨by simp only [abtA, hO, hcl, eq_false c_11, eq_true c_75]; rfl, rfl⟩
        · refine r_iconst C0 78 1 dX5_about_78 (by decide) ?_
          refine r_goto C0 79 83 dX5_about_79 (by decide) ?_
          refine r_iret C 83 dX5_about_83 (Nat.le_refl _) (Nat.le_refl _) ?_
          exact ⟨by simp only [abtA, hO, hcl, eq_false c_11, eq_false c_75]; rfl, rfl⟩
    · refine r_tableOut C0 17 84 dX5_about_17 ho (by decide) ?_
      refine r_iconst C0 84 (-1) dX5_about_84 (by decide) ?_
      refine r_iret C 85 dX5_about_85 (Nat.le_refl _) (Nat.le_refl _) ?_
      exact ⟨by simp [abtA, hO, swn ho (c := 0) (by decide), swn ho (c := 1) (by decide), swn ho (c := 2) (by decide), swn ho (c := 3) (by decide), eq_false c_11], rfl⟩
  · rw [hO] at c_11
    refine r_iconst C0 14 (-1) dX5_about_14 (by decide) ?_
    refine r_iret C 15 dX5_about_15 (Nat.le_refl _) (Nat.le_refl _) ?_
    exact ⟨by simp [abtA, hO, eq_true c_11], rfl⟩
end M7
