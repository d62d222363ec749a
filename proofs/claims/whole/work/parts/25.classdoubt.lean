/-! the class: doubt, hours -/
/-- the packs' numbers: barns as bits 1 .. 15, the first tick not after now, the last not below 0, held or not -/
def PkOK (M : Nat → Nat → Int32) (P : Nat) : Prop := ∀ i, i < P → (∃ k : Nat, 1 ≤ k ∧ k ≤ 15 ∧ M 23 i = nI k) ∧ M 24 i ≤ M 35 0 ∧ 0 ≤ M 25 i ∧ (M 29 i = 0 ∨ M 29 i = 1)
theorem bit_and : ∀ k, k < 16 → ∀ x, x < 4 → (hbN (nI k) (nI x) = 0 ↔ nI k &&& (1 <<< (nI x &&& 31)) = 0) := by decide +kernel
theorem and_15 : ∀ k, k < 16 → 1 ≤ k → ¬ nI k &&& 15 = 0 := by decide +kernel
theorem dbN_n {M : Nat → Nat → Int32} {b f t hold : Int32} {g : Nat} (hg : g ≠ 29) : ∀ i, (dbN M b f t hold i).1 g = M g := fun i => by
  induction i with
  | zero => rfl
  | succ i ih =>
    show (db1 b f t hold i (dbN M b f t hold i)).1 g = M g
    unfold db1
    split
    · exact ih
    · split
      · exact ih
      · split
        · exact ih
        · show up2 _ 29 i _ g = M g
          rw [up2_n hg]; exact ih
theorem hd1_01 {M : Nat → Nat → Int32} {p : Nat} {z : Int32} : hd1 M p z = 0 ∨ hd1 M p z = 1 := by
  unfold hd1
  split
  · split
    · exact Or.inl rfl
    · split
      · exact Or.inr rfl
      · exact Or.inl rfl
  · exact Or.inr rfl
theorem dbN_ok {M : Nat → Nat → Int32} {P : Nat} {b f t hold : Int32} (h : PkOK M P) : ∀ i, PkOK (dbN M b f t hold i).1 P := fun i k hk => by
  rw [dbN_n (by decide), dbN_n (by decide), dbN_n (by decide), dbN_n (by decide)]
  refine ⟨(h k hk).1, (h k hk).2.1, (h k hk).2.2.1, ?_⟩
  induction i with
  | zero => exact (h k hk).2.2.2
  | succ i ih =>
    show (db1 b f t hold i (dbN M b f t hold i)).1 29 k = 0 ∨ (db1 b f t hold i (dbN M b f t hold i)).1 29 k = 1
    unfold db1
    split
    · exact ih
    · split
      · exact ih
      · split
        · exact ih
        · show up2 _ 29 i _ 29 k = 0 ∨ up2 _ 29 i _ 29 k = 1
          rw [up2_s]
          unfold upd
          by_cases q : k = i
          · rw [if_pos q]; exact hd1_01
          · rw [if_neg q]; exact ih
theorem CI.hold {te : Nat} {S : CS} {a v : Nat → Nat} {w : Nat → Nat → Nat} {E Q W P O : Nat} {M : Nat → Nat → Int32} {T : Int64} (ci : CI te a v w E Q W P O S M T) {x : Nat} (hx : x < P) (h01 : M 29 x = 0 ∨ M 29 x = 1) (z : Int32) : CI te a v w E Q W P O (hoiS S (w 1 x) z) (up2 M 29 x (hd1 M x z)) T := by
  have d := ci.2.2.2.2.2.2.2.2.1 x hx
  have hid : (if M 29 x = 0 then (0 : Int32) else 1) = M 29 x := by rcases h01 with h | h <;> rw [h] <;> rfl
  unfold hoiS hd1
  rw [d.2.2.2.2.2.2.2.1]
  by_cases hz : z = 0
  · rw [if_pos hz, if_pos hz, hid, up2_id]; exact ci
  · rw [if_neg hz, if_neg hz]
    by_cases h9 : M 28 x = -9
    · rw [if_pos h9, if_pos h9, show (if M 29 x = 0 then (1 : Int32) else 1) = 1 by split <;> rfl]
      exact ci.held hx 1
    · rw [if_neg h9, if_neg h9, hid, up2_id]; exact ci
section C25
variable {D : va_G} {ar : Nat → ClassId} {tg te mi : Nat} {S : CS}
variable {a v : Nat → Nat} {w : Nat → Nat → Nat} {E Q W P O : Nat} {M : Nat → Nat → Int32} {T : Int64}
set_option maxRecDepth 100000 in
theorem k_X4_doubt (ci : CI te a v w E Q W P O S M T) (pko : PkOK M P) (b hold : Int32)  : Cn D ar (XC tg te mi) yX4_doubt cX4_doubt 6 (some .int) 3 64 0 0 [.ref (a 0), .int b, .int hold] (cW ar S) (fun r w9 => r = some (.int (dbtA M P b hold).2) ∧ ∃ S', w9 = cW ar S' ∧ CI te a v w E Q W P O S' (dbtA M P b hold).1 T) := by
  refine Cn.of (own := RX4) XC_ok (by decide) rfl (Nat.le_of_ble_eq_true rfl) (fun j C => ?_)
  have C0 := C.to
  show j _ 0 0 0 [(0, _), (1, _), (2, _)] []
  have hP6 := ci.2.2.2.1.1.1
  have hs := ci.1
  refine r_iload_n C0 0 1 dX4_doubt_0 rfl rfl ?_
  refine s_call (As := [.int _]) C0 1 1 (k_X4_isBarn XC_ok _ _) (rm_X4_isBarn (by decide) (by decide) (Nat.le_refl _) (Nat.le_refl _)) mlX4_45 st_X4_isBarn rfl (Nat.le_of_ble_eq_true rfl) dX4_doubt_1 ?_
  rintro _ _ ⟨rfl, rfl⟩
  refine r_if_ne C0 4 9 dX4_doubt_4 (by decide) (fun c_4 => ?_) (fun c_4 => ?_)
  · obtain ⟨x, hx, rfl⟩ := inR_3 c_4
    refine r_iconst C0 9 0 dX4_doubt_9 (by decide) ?_
    refine r_istore_n (lv' := [(0, _), (1, _), (2, _), (3, _)]) C0 10 3 dX4_doubt_10 rfl rfl (by decide) rfl ?_
    refine r_iconst C0 11 0 dX4_doubt_11 (by decide) ?_
    refine r_istore (lv' := [(0, _), (1, _), (2, _), (3, _), (4, _)]) C0 12 dX4_doubt_12 rfl (by decide) rfl ?_
    suffices key : ∀ i, i ≤ P → ∀ S2 : CS, CI te a v w E Q W P O S2 (dbN M (1 <<< (nI x &&& 31)) 0 (M 35 0) hold i).1 T → j (cW ar S2) 0 0 14 [(0, .ref (a 0)), (1, .int (nI x)), (2, .int hold), (3, .int (dbN M (1 <<< (nI x &&& 31)) 0 (M 35 0) hold i).2), (4, .int (nI i))] [] from key 0 (Nat.zero_le _) S ci
    refine loopUp (P := P) (f := fun i => ∀ S2 : CS, CI te a v w E Q W P O S2 (dbN M (1 <<< (nI x &&& 31)) 0 (M 35 0) hold i).1 T → j (cW ar S2) 0 0 14 [(0, .ref (a 0)), (1, .int (nI x)), (2, .int hold), (3, .int (dbN M (1 <<< (nI x &&& 31)) 0 (M 35 0) hold i).2), (4, .int (nI i))] []) (fun i hi ih S2 ci2 => ?_)
    have hs := ci2.1
    have pk := ci2.2.2.2.1
    have pa := ci2.2.2.2.2.2.2.2.2.1
    have ok2 := dbN_ok (b := 1 <<< (nI x &&& 31)) (f := 0) (t := M 35 0) (hold := hold) pko i
    refine r_iload C0 14 dX4_doubt_14 rfl ?_
    refine r_aload_n C0 16 0 dX4_doubt_16 rfl rfl ?_
    refine cgR_5 C0 17 hs.2.1.2.2.2.2.1 flX4_31 hs.1 dX4_doubt_17 ?_
    refine c_call (As := []) C0 20 0 (k_Jx4a65c_size_8abf5 XC_ok pk.2.1) (rm_Jx4a65c_size_8abf5 (by decide) (by decide) (Nat.le_refl _) (Nat.le_refl _)) mlX4_53 im_Jx4a65c_size_8abf5 se_Jx4a65c_size_8abf5 (by decide) rfl pk.2.1 rfl (Nat.le_of_ble_eq_true rfl) dX4_doubt_20 ?_
    rintro _ _ ⟨rfl, rfl⟩
    rw [pk.2.2.1]
    refine r_icmp_ge C0 23 67 dX4_doubt_23 (by decide) (fun c_23 => ?_) (fun c_23 => ?_)
    · have hge : P ≤ i := (nI_leI (by omega) (by omega)).mp c_23
      refine r_iload_n C0 67 3 dX4_doubt_67 rfl rfl ?_
      refine r_iret C 68 dX4_doubt_68 (Nat.le_refl _) (Nat.le_refl _) ?_
      have e : i = P := by omega
      subst e
      exact ⟨by simp only [dbtA, eq_false c_4]; rfl, S2, rfl, by simp only [dbtA, eq_false c_4]; exact ci2⟩
    · have hlt : i < P := Nat.lt_of_not_le (fun q => c_23 (nI_le q (by omega)))
      have d := pa i hlt
      obtain ⟨⟨kk, hk1, hk15, ekk⟩, o2, o3, o4⟩ := ok2 i hlt
      refine r_aload_n C0 26 0 dX4_doubt_26 rfl rfl ?_
      refine cgR_5 C0 27 hs.2.1.2.2.2.2.1 flX4_31 hs.1 dX4_doubt_27 ?_
      refine r_iload C0 30 dX4_doubt_30 rfl ?_
      refine c_call (As := [.int _]) C0 32 1 (k_Jx4a65c_get_915e3 XC_ok pk.2 hlt) (rm_Jx4a65c_get_915e3 (by decide) (by decide) (Nat.le_refl _) (Nat.le_refl _)) mlX4_137 im_Jx4a65c_get_915e3 se_Jx4a65c_get_915e3 (by decide) rfl pk.2.1 rfl (Nat.le_of_ble_eq_true rfl) dX4_doubt_32 ?_
      rintro _ _ ⟨rfl, rfl⟩
      refine ca_cast C0 35 (by decide) rfl clX4_89 d.1 dX4_doubt_35 ?_
      refine r_astore (lv' := [(0, _), (1, _), (2, _), (3, _), (4, _), (5, _)]) C0 38 dX4_doubt_38 rfl (by decide) rfl ?_
      refine r_aload C0 40 dX4_doubt_40 rfl ?_
      refine cgI_22 C0 42 flX4_122 d.1 dX4_doubt_42 ?_
      rw [d.2.2.1, ekk]
      refine r_iload_n C0 45 1 dX4_doubt_45 rfl rfl ?_
      refine s_call (As := [.int _, .int _]) C0 46 2 (k_X4_hasBit XC_ok _ _ _) (rm_X4_hasBit (by decide) (by decide) (Nat.le_refl _) (Nat.le_refl _)) mlX4_174 st_X4_hasBit rfl (Nat.le_of_ble_eq_true rfl) dX4_doubt_46 ?_
      rintro _ _ ⟨rfl, rfl⟩
      refine r_if_eq C0 49 61 dX4_doubt_49 (by decide) (fun c_49 => ?_) (fun c_49 => ?_)
      · refine r_iinc (lv' := [(0, _), (1, _), (2, _), (3, _), (4, _), (5, _)]) C0 61 _ dX4_doubt_61 rfl rfl rfl (by decide) rfl ?_
        refine r_goto C0 64 14 dX4_doubt_64 (by decide) ?_
        have h9 := ih hlt S2 (by rw [show dbN M (1 <<< (nI x &&& 31)) 0 (M 35 0) hold (i + 1) = (dbN M (1 <<< (nI x &&& 31)) 0 (M 35 0) hold i) by show db1 _ _ _ _ i (dbN M (1 <<< (nI x &&& 31)) 0 (M 35 0) hold i) = _; unfold db1; rw [ekk, if_pos ((bit_and kk (by omega) x hx).mp c_49)]]; exact ci2)
        rw [show dbN M (1 <<< (nI x &&& 31)) 0 (M 35 0) hold (i + 1) = (dbN M (1 <<< (nI x &&& 31)) 0 (M 35 0) hold i) by show db1 _ _ _ _ i (dbN M (1 <<< (nI x &&& 31)) 0 (M 35 0) hold i) = _; unfold db1; rw [ekk, if_pos ((bit_and kk (by omega) x hx).mp c_49)]] at h9
        rw [← nI_1 i] at h9
        refine r_drop C0 ?_ h9
        simp
      · refine r_iinc (lv' := [(0, _), (1, _), (2, _), (3, _), (4, _), (5, _)]) C0 52 _ dX4_doubt_52 rfl rfl rfl (by decide) rfl ?_
        refine r_aload C0 55 dX4_doubt_55 rfl ?_
        refine r_iload_n C0 57 2 dX4_doubt_57 rfl rfl ?_
        refine c_call (As := [.int _]) C0 58 1 (k_X2_holdIf XC_ok d.1 _) (rm_X2_holdIf (by decide) (by decide) (Nat.le_refl _) (Nat.le_refl _)) mlX4_191 im_X2_holdIf se_X2_holdIf (by decide) rfl d.1 rfl (Nat.le_of_ble_eq_true rfl) dX4_doubt_58 ?_
        rintro _ _ ⟨rfl, rfl⟩
        refine r_iinc (lv' := [(0, _), (1, _), (2, _), (3, _), (4, _), (5, _)]) C0 61 _ dX4_doubt_61 rfl rfl rfl (by decide) rfl ?_
        refine r_goto C0 64 14 dX4_doubt_64 (by decide) ?_
        have e9 : dbN M (1 <<< (nI x &&& 31)) 0 (M 35 0) hold (i + 1) = (up2 (dbN M (1 <<< (nI x &&& 31)) 0 (M 35 0) hold i).1 29 i (hd1 (dbN M (1 <<< (nI x &&& 31)) 0 (M 35 0) hold i).1 i hold), (dbN M (1 <<< (nI x &&& 31)) 0 (M 35 0) hold i).2 + 1) := by
          show db1 _ _ _ _ i (dbN M (1 <<< (nI x &&& 31)) 0 (M 35 0) hold i) = _
          unfold db1
          rw [if_neg (by rw [ekk]; exact fun q => c_49 ((bit_and kk (by omega) x hx).mpr q)), if_neg (Int32.not_lt.mpr (show (dbN M (1 <<< (nI x &&& 31)) 0 (M 35 0) hold i).1 24 i ≤ M 35 0 by rw [dbN_n (g := 35) (by decide)] at o2; exact o2)), if_neg (Int32.not_lt.mpr o3)]
        have h9 := ih hlt _ (by rw [e9]; exact ci2.hold hlt o4 hold)
        rw [e9, ← nI_1 i] at h9
        refine r_drop C0 ?_ h9
        simp [show Int32.ofInt 1 = (1 : Int32) from rfl]
  · refine r_iconst C0 7 (-1) dX4_doubt_7 (by decide) ?_
    refine r_iret C 8 dX4_doubt_8 (Nat.le_refl _) (Nat.le_refl _) ?_
    exact ⟨by simp only [dbtA, eq_true c_4]; rfl, S, rfl, by simp only [dbtA, eq_true c_4]; exact ci⟩
set_option maxRecDepth 100000 in
theorem k_X4_hours (ci : CI te a v w E Q W P O S M T) (pko : PkOK M P) (f t hold : Int32)  : Cn D ar (XC tg te mi) yX4_hours cX4_hours 7 (some .int) 3 64 0 0 [.ref (a 0), .int f, .int t, .int hold] (cW ar S) (fun r w9 => r = some (.int (hrsA M P f t hold).2) ∧ ∃ S', w9 = cW ar S' ∧ CI te a v w E Q W P O S' (hrsA M P f t hold).1 T) := by
  refine Cn.of (own := RX4) XC_ok (by decide) rfl (Nat.le_of_ble_eq_true rfl) (fun j C => ?_)
  have C0 := C.to
  show j _ 0 0 0 [(0, _), (1, _), (2, _), (3, _)] []
  have hP6 := ci.2.2.2.1.1.1
  have hs := ci.1
  refine r_iload_n C0 0 1 dX4_hours_0 rfl rfl ?_
  refine r_if_lt C0 1 9 dX4_hours_1 (by decide) (fun c_1 => ?_) (fun c_1 => ?_)
  · refine r_iconst C0 9 (-1) dX4_hours_9 (by decide) ?_
    refine r_iret C 10 dX4_hours_10 (Nat.le_refl _) (Nat.le_refl _) ?_
    exact ⟨by simp only [hrsA, eq_true c_1]; rfl, S, rfl, by simp only [hrsA, eq_true c_1]; exact ci⟩
  · refine r_iload_n C0 4 2 dX4_hours_4 rfl rfl ?_
    refine r_iload_n C0 5 1 dX4_hours_5 rfl rfl ?_
    refine r_icmp_ge C0 6 11 dX4_hours_6 (by decide) (fun c_6 => ?_) (fun c_6 => ?_)
    · refine r_iconst C0 11 0 dX4_hours_11 (by decide) ?_
      refine r_istore (lv' := [(0, _), (1, _), (2, _), (3, _), (4, _)]) C0 12 dX4_hours_12 rfl (by decide) rfl ?_
      refine r_iconst C0 14 0 dX4_hours_14 (by decide) ?_
      refine r_istore (lv' := [(0, _), (1, _), (2, _), (3, _), (4, _), (5, _)]) C0 15 dX4_hours_15 rfl (by decide) rfl ?_
      suffices key : ∀ i, i ≤ P → ∀ S2 : CS, CI te a v w E Q W P O S2 (dbN M 15 f t hold i).1 T → j (cW ar S2) 0 0 17 [(0, .ref (a 0)), (1, .int f), (2, .int t), (3, .int hold), (4, .int (dbN M 15 f t hold i).2), (5, .int (nI i))] [] from key 0 (Nat.zero_le _) S ci
      refine loopUp (P := P) (f := fun i => ∀ S2 : CS, CI te a v w E Q W P O S2 (dbN M 15 f t hold i).1 T → j (cW ar S2) 0 0 17 [(0, .ref (a 0)), (1, .int f), (2, .int t), (3, .int hold), (4, .int (dbN M 15 f t hold i).2), (5, .int (nI i))] []) (fun i hi ih S2 ci2 => ?_)
      have hs := ci2.1
      have pk := ci2.2.2.2.1
      have pa := ci2.2.2.2.2.2.2.2.2.1
      have ok2 := dbN_ok (b := 15) (f := f) (t := t) (hold := hold) pko i
      refine r_iload C0 17 dX4_hours_17 rfl ?_
      refine r_aload_n C0 19 0 dX4_hours_19 rfl rfl ?_
      refine cgR_5 C0 20 hs.2.1.2.2.2.2.1 flX4_31 hs.1 dX4_hours_20 ?_
      refine c_call (As := []) C0 23 0 (k_Jx4a65c_size_8abf5 XC_ok pk.2.1) (rm_Jx4a65c_size_8abf5 (by decide) (by decide) (Nat.le_refl _) (Nat.le_refl _)) mlX4_53 im_Jx4a65c_size_8abf5 se_Jx4a65c_size_8abf5 (by decide) rfl pk.2.1 rfl (Nat.le_of_ble_eq_true rfl) dX4_hours_23 ?_
      rintro _ _ ⟨rfl, rfl⟩
      rw [pk.2.2.1]
      refine r_icmp_ge C0 26 76 dX4_hours_26 (by decide) (fun c_26 => ?_) (fun c_26 => ?_)
      · have hge : P ≤ i := (nI_leI (by omega) (by omega)).mp c_26
        refine r_iload C0 76 dX4_hours_76 rfl ?_
        refine r_iret C 78 dX4_hours_78 (Nat.le_refl _) (Nat.le_refl _) ?_
        have e : i = P := by omega
        subst e
        exact ⟨by simp only [hrsA, eq_false c_1, eq_true c_6]; rfl, S2, rfl, by simp only [hrsA, eq_false c_1, eq_true c_6]; exact ci2⟩
      · have hlt : i < P := Nat.lt_of_not_le (fun q => c_26 (nI_le q (by omega)))
        have d := pa i hlt
        obtain ⟨⟨kk, hk1, hk15, ekk⟩, o2, o3, o4⟩ := ok2 i hlt
        refine r_aload_n C0 29 0 dX4_hours_29 rfl rfl ?_
        refine cgR_5 C0 30 hs.2.1.2.2.2.2.1 flX4_31 hs.1 dX4_hours_30 ?_
        refine r_iload C0 33 dX4_hours_33 rfl ?_
        refine c_call (As := [.int _]) C0 35 1 (k_Jx4a65c_get_915e3 XC_ok pk.2 hlt) (rm_Jx4a65c_get_915e3 (by decide) (by decide) (Nat.le_refl _) (Nat.le_refl _)) mlX4_137 im_Jx4a65c_get_915e3 se_Jx4a65c_get_915e3 (by decide) rfl pk.2.1 rfl (Nat.le_of_ble_eq_true rfl) dX4_hours_35 ?_
        rintro _ _ ⟨rfl, rfl⟩
        refine ca_cast C0 38 (by decide) rfl clX4_89 d.1 dX4_hours_38 ?_
        refine r_astore (lv' := [(0, _), (1, _), (2, _), (3, _), (4, _), (5, _), (6, _)]) C0 41 dX4_hours_41 rfl (by decide) rfl ?_
        refine r_aload C0 43 dX4_hours_43 rfl ?_
        refine cgI_23 C0 45 flX4_142 d.1 dX4_hours_45 ?_
        rw [d.2.2.2.1]
        refine r_iload_n C0 48 2 dX4_hours_48 rfl rfl ?_
        refine r_icmp_gt C0 49 70 dX4_hours_49 (by decide) (fun c_49 => ?_) (fun c_49 => ?_)
        · refine r_iinc (lv' := [(0, _), (1, _), (2, _), (3, _), (4, _), (5, _), (6, _)]) C0 70 _ dX4_hours_70 rfl rfl rfl (by decide) rfl ?_
          refine r_goto C0 73 17 dX4_hours_73 (by decide) ?_
          have e9 : dbN M 15 f t hold (i + 1) = (dbN M 15 f t hold i) := by
            show db1 _ _ _ _ i (dbN M 15 f t hold i) = _
            unfold db1
            rw [if_neg (by rw [ekk]; exact and_15 kk (by omega) hk1), if_pos c_49]
          have h9 := ih hlt S2 (by rw [e9]; exact ci2)
          rw [e9, ← nI_1 i] at h9
          refine r_drop C0 ?_ h9
          simp
        · refine r_aload C0 52 dX4_hours_52 rfl ?_
          refine cgI_24 C0 54 flX4_145 d.1 dX4_hours_54 ?_
          rw [d.2.2.2.2.1]
          refine r_iload_n C0 57 1 dX4_hours_57 rfl rfl ?_
          refine r_icmp_lt C0 58 70 dX4_hours_58 (by decide) (fun c_58 => ?_) (fun c_58 => ?_)
          · refine r_iinc (lv' := [(0, _), (1, _), (2, _), (3, _), (4, _), (5, _), (6, _)]) C0 70 _ dX4_hours_70 rfl rfl rfl (by decide) rfl ?_
            refine r_goto C0 73 17 dX4_hours_73 (by decide) ?_
            have e9 : dbN M 15 f t hold (i + 1) = (dbN M 15 f t hold i) := by
              show db1 _ _ _ _ i (dbN M 15 f t hold i) = _
              unfold db1
              rw [if_neg (by rw [ekk]; exact and_15 kk (by omega) hk1), if_neg c_49, if_pos c_58]
            have h9 := ih hlt S2 (by rw [e9]; exact ci2)
            rw [e9, ← nI_1 i] at h9
            refine r_drop C0 ?_ h9
            simp
          · refine r_iinc (lv' := [(0, _), (1, _), (2, _), (3, _), (4, _), (5, _), (6, _)]) C0 61 _ dX4_hours_61 rfl rfl rfl (by decide) rfl ?_
            refine r_aload C0 64 dX4_hours_64 rfl ?_
            refine r_iload_n C0 66 3 dX4_hours_66 rfl rfl ?_
            refine c_call (As := [.int _]) C0 67 1 (k_X2_holdIf XC_ok d.1 _) (rm_X2_holdIf (by decide) (by decide) (Nat.le_refl _) (Nat.le_refl _)) mlX4_191 im_X2_holdIf se_X2_holdIf (by decide) rfl d.1 rfl (Nat.le_of_ble_eq_true rfl) dX4_hours_67 ?_
            rintro _ _ ⟨rfl, rfl⟩
            refine r_iinc (lv' := [(0, _), (1, _), (2, _), (3, _), (4, _), (5, _), (6, _)]) C0 70 _ dX4_hours_70 rfl rfl rfl (by decide) rfl ?_
            refine r_goto C0 73 17 dX4_hours_73 (by decide) ?_
            have e9 : dbN M 15 f t hold (i + 1) = (up2 (dbN M 15 f t hold i).1 29 i (hd1 (dbN M 15 f t hold i).1 i hold), (dbN M 15 f t hold i).2 + 1) := by
              show db1 _ _ _ _ i (dbN M 15 f t hold i) = _
              unfold db1
              rw [if_neg (by rw [ekk]; exact and_15 kk (by omega) hk1), if_neg c_49, if_neg c_58]
            have h9 := ih hlt _ (by rw [e9]; exact ci2.hold hlt o4 hold)
            rw [e9, ← nI_1 i] at h9
            refine r_drop C0 ?_ h9
            simp [show Int32.ofInt 1 = (1 : Int32) from rfl]
    · refine r_iconst C0 9 (-1) dX4_hours_9 (by decide) ?_
      refine r_iret C 10 dX4_hours_10 (Nat.le_refl _) (Nat.le_refl _) ?_
      exact ⟨by simp only [hrsA, eq_false c_1, eq_false c_6]; rfl, S, rfl, by simp only [hrsA, eq_false c_1, eq_false c_6]; exact ci⟩
end C25
