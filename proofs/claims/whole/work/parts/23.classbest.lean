/-! the class: worthOf, wantedOf, canServe, freeByGrade, bestSet, best -/
theorem and1 (x : Int32) : x &&& 1 = 0 ∨ x &&& 1 = 1 := by
  obtain ⟨k, hk, e⟩ := pk_andE x (m := 1) 1 (by decide)
  rw [e]
  rcases (show k = 0 ∨ k = 1 by omega) with rfl | rfl
  · exact Or.inl rfl
  · exact Or.inr rfl
theorem bit01 {s : Int32} {o : Nat} : bitN s o = 0 ∨ bitN s o = 1 := and1 _
theorem hb_bit {s : Int32} {o : Nat} : hbN s (nI o) = if bitN s o = 1 then 1 else 0 := rfl
theorem hb_0 {s : Int32} {o : Nat} (h : hbN s (nI o) = 0) : ¬ bitN s o = 1 := fun q => by
  rw [hb_bit, if_pos q] at h
  exact absurd h (by decide)
theorem hb_1 {s : Int32} {o : Nat} (h : ¬ hbN s (nI o) = 0) : bitN s o = 1 := Classical.byContradiction (fun q => h (by rw [hb_bit, if_neg q]))
theorem bit_z : ∀ {o : Nat}, o < 6 → bitN 0 o = 0
  | 0, _ => by decide
  | 1, _ => by decide
  | 2, _ => by decide
  | 3, _ => by decide
  | 4, _ => by decide
  | 5, _ => by decide
  | n + 6, h => absurd h (by omega)
theorem worthN_z {M : Nat → Nat → Int32} : ∀ {O : Nat}, O ≤ 6 → worthN M 0 O = 0
  | 0, _ => rfl
  | O + 1, h => by
    show worthN M 0 O + wo1 M 0 O = 0
    rw [worthN_z (by omega)]
    unfold wo1
    rw [if_neg (by rw [bit_z (by omega)]; decide)]
    rfl
theorem canA_1 {M : Nat → Nat → Int32} {s : Int32} {P O : Nat} : ∀ {g : Nat}, (∀ i, i < g → ¬ freeN M (nI i) P < wantN M s (nI i) O) → canA M s P O g = 1
  | 0, _ => rfl
  | g + 1, h => by
    show can1 M s P O g (canA M s P O g) = 1
    rw [canA_1 (fun i hi => h i (by omega))]
    unfold can1
    rw [if_neg (by decide), if_neg (h g (by omega))]
theorem canA_0 {M : Nat → Nat → Int32} {s : Int32} {P O i : Nat} (h : freeN M (nI i) P < wantN M s (nI i) O) : ∀ {g : Nat}, i < g → canA M s P O g = 0
  | 0, hi => absurd hi (by omega)
  | g + 1, hi => by
    show can1 M s P O g (canA M s P O g) = 0
    unfold can1
    by_cases e : i = g
    · subst e
      rw [if_pos h]; simp
    · rw [canA_0 h (by omega), if_pos rfl]
theorem canB_z {M : Nat → Nat → Int32} {s : Int32} {P O : Nat} (h : canA M s P O 6 = 0) : ∀ {o : Nat}, canB M s P O o = 0
  | 0 => h
  | o + 1 => by
    show can2 M s o (canB M s P O o) = 0
    rw [canB_z h]
    unfold can2
    rw [if_pos rfl]
theorem canB_0 {M : Nat → Nat → Int32} {s : Int32} {P O i : Nat} (h1 : bitN s i = 1) (h2 : ¬ M 34 i = 0) : ∀ {o : Nat}, i < o → canB M s P O o = 0
  | 0, hi => absurd hi (by omega)
  | o + 1, hi => by
    show can2 M s o (canB M s P O o) = 0
    unfold can2
    by_cases e : i = o
    · subst e
      rw [if_neg (show ¬ bitN s i = 0 by rw [h1]; decide), if_neg h2]; simp
    · rw [canB_0 h1 h2 (by omega), if_pos rfl]
theorem canB_1 {M : Nat → Nat → Int32} {s : Int32} {P O : Nat} (h : canA M s P O 6 = 1) : ∀ {o : Nat}, (∀ i, i < o → bitN s i = 1 → M 34 i = 0) → canB M s P O o = 1
  | 0, _ => h
  | o + 1, hh => by
    show can2 M s o (canB M s P O o) = 1
    rw [canB_1 h (fun i hi => hh i (by omega))]
    unfold can2
    rw [if_neg (by decide)]
    rcases bit01 (s := s) (o := o) with q | q
    · rw [if_pos q]
    · rw [if_neg (by rw [q]; decide), if_pos (hh o (by omega) q)]
section C23
variable {D : va_G} {ar : Nat → ClassId} {tg te mi : Nat} {S : CS}
variable {a v : Nat → Nat} {w : Nat → Nat → Nat} {E Q W P O : Nat} {M : Nat → Nat → Int32} {T : Int64}
set_option maxRecDepth 100000 in
theorem k_X4_worthOf (hs : cHs a S M T) (od : cOr te a v w O S M) (oo : cOd w O S M) (z : Int32)  : Cn D ar (XC tg te mi) yX4_worthOf cX4_worthOf 4 (some .int) 3 64 0 0 [.ref (a 0), .int z] (cW ar S) (fun r w9 => r = some (.int (worthN M z O)) ∧ w9 = cW ar S) := by
  refine Cn.of (own := RX4) XC_ok (by decide) rfl (Nat.le_of_ble_eq_true rfl) (fun j C => ?_)
  have C0 := C.to
  show j _ 0 0 0 [(0, _), (1, _)] []
  have hO6 := od.1.1
  refine r_iconst C0 0 0 dX4_worthOf_0 (by decide) ?_
  refine r_istore_n (lv' := [(0, _), (1, _), (2, _)]) C0 1 2 dX4_worthOf_1 rfl rfl (by decide) rfl ?_
  refine r_iconst C0 2 0 dX4_worthOf_2 (by decide) ?_
  refine r_istore_n (lv' := [(0, _), (1, _), (2, _), (3, _)]) C0 3 3 dX4_worthOf_3 rfl rfl (by decide) rfl ?_
  refine loopUp (P := O) (f := fun i => j (cW ar S) 0 0 4 [(0, .ref (a 0)), (1, .int z), (2, .int (worthN M z i)), (3, .int (nI i))] []) (fun i hi ih => ?_) 0 (Nat.zero_le _)
  refine r_iload_n C0 4 3 dX4_worthOf_4 rfl rfl ?_
  refine r_aload_n C0 5 0 dX4_worthOf_5 rfl rfl ?_
  refine cgR_6 C0 6 hs.2.1.2.2.2.2.2.1 flX4_34 hs.1 dX4_worthOf_6 ?_
  refine c_call (As := []) C0 9 0 (k_Jx4a65c_size_8abf5 XC_ok od.2.1) (rm_Jx4a65c_size_8abf5 (by decide) (by decide) (Nat.le_refl _) (Nat.le_refl _)) mlX4_53 im_Jx4a65c_size_8abf5 se_Jx4a65c_size_8abf5 (by decide) rfl od.2.1 rfl (Nat.le_of_ble_eq_true rfl) dX4_worthOf_9 ?_
  rintro _ _ ⟨rfl, rfl⟩
  rw [od.2.2.1]
  refine r_icmp_ge C0 12 46 dX4_worthOf_12 (by decide) (fun c_12 => ?_) (fun c_12 => ?_)
  · have hge : O ≤ i := (nI_leI (by omega) (by omega)).mp c_12
    refine r_iload_n C0 46 2 dX4_worthOf_46 rfl rfl ?_
    refine r_iret C 47 dX4_worthOf_47 (Nat.le_refl _) (Nat.le_refl _) ?_
    have e : i = O := by omega
    subst e
    exact ⟨rfl, rfl⟩
  · have hlt : i < O := Nat.lt_of_not_le (fun q => c_12 (nI_le q (by omega)))
    refine r_iload_n C0 15 1 dX4_worthOf_15 rfl rfl ?_
    refine r_iload_n C0 16 3 dX4_worthOf_16 rfl rfl ?_
    refine s_call (As := [.int _, .int _]) C0 17 2 (k_X4_hasBit XC_ok _ _ _) (rm_X4_hasBit (by decide) (by decide) (Nat.le_refl _) (Nat.le_refl _)) mlX4_174 st_X4_hasBit rfl (Nat.le_of_ble_eq_true rfl) dX4_worthOf_17 ?_
    rintro _ _ ⟨rfl, rfl⟩
    refine r_if_eq C0 20 40 dX4_worthOf_20 (by decide) (fun c_20 => ?_) (fun c_20 => ?_)
    · refine r_iinc (lv' := [(0, _), (1, _), (2, _), (3, _)]) C0 40 _ dX4_worthOf_40 rfl rfl rfl (by decide) rfl ?_
      refine r_goto C0 43 4 dX4_worthOf_43 (by decide) ?_
      have h9 := ih hlt
      rw [← nI_1 i] at h9
      rw [show worthN M z (i + 1) = worthN M z i + (if bitN z i = 1 then M 33 i else 0) from rfl, if_neg (hb_0 c_20)] at h9
      simpa using h9
    · refine r_iload_n C0 23 2 dX4_worthOf_23 rfl rfl ?_
      refine r_aload_n C0 24 0 dX4_worthOf_24 rfl rfl ?_
      refine cgR_6 C0 25 hs.2.1.2.2.2.2.2.1 flX4_34 hs.1 dX4_worthOf_25 ?_
      refine r_iload_n C0 28 3 dX4_worthOf_28 rfl rfl ?_
      refine c_call (As := [.int _]) C0 29 1 (k_Jx4a65c_get_915e3 XC_ok od.2 hlt) (rm_Jx4a65c_get_915e3 (by decide) (by decide) (Nat.le_refl _) (Nat.le_refl _)) mlX4_137 im_Jx4a65c_get_915e3 se_Jx4a65c_get_915e3 (by decide) rfl od.2.1 rfl (Nat.le_of_ble_eq_true rfl) dX4_worthOf_29 ?_
      rintro _ _ ⟨rfl, rfl⟩
      refine ca_cast C0 32 (by decide) rfl clX4_163 (oo i hlt).1 dX4_worthOf_32 ?_
      refine cgI_12 C0 35 flX4_185 (oo i hlt).1 dX4_worthOf_35 ?_
      rw [(oo i hlt).2.2.2.1]
      refine r_iadd C0 38 dX4_worthOf_38 ?_
      refine r_istore_n (lv' := [(0, _), (1, _), (2, _), (3, _)]) C0 39 2 dX4_worthOf_39 rfl rfl (by decide) rfl ?_
      refine r_iinc (lv' := [(0, _), (1, _), (2, _), (3, _)]) C0 40 _ dX4_worthOf_40 rfl rfl rfl (by decide) rfl ?_
      refine r_goto C0 43 4 dX4_worthOf_43 (by decide) ?_
      have h9 := ih hlt
      rw [← nI_1 i] at h9
      rw [show worthN M z (i + 1) = worthN M z i + (if bitN z i = 1 then M 33 i else 0) from rfl, if_pos (hb_1 c_20)] at h9
      exact h9
set_option maxRecDepth 100000 in
theorem k_X4_wantedOf (hs : cHs a S M T) (od : cOr te a v w O S M) (oo : cOd w O S M) (z g : Int32)  : Cn D ar (XC tg te mi) yX4_wantedOf cX4_wantedOf 6 (some .int) 3 64 0 0 [.ref (a 0), .int z, .int g] (cW ar S) (fun r w9 => r = some (.int (wantN M z g O)) ∧ w9 = cW ar S) := by
  refine Cn.of (own := RX4) XC_ok (by decide) rfl (Nat.le_of_ble_eq_true rfl) (fun j C => ?_)
  have C0 := C.to
  show j _ 0 0 0 [(0, _), (1, _), (2, _)] []
  have hO6 := od.1.1
  refine r_iconst C0 0 0 dX4_wantedOf_0 (by decide) ?_
  refine r_istore_n (lv' := [(0, _), (1, _), (2, _), (3, _)]) C0 1 3 dX4_wantedOf_1 rfl rfl (by decide) rfl ?_
  refine r_iconst C0 2 0 dX4_wantedOf_2 (by decide) ?_
  refine r_istore (lv' := [(0, _), (1, _), (2, _), (3, _), (4, _)]) C0 3 dX4_wantedOf_3 rfl (by decide) rfl ?_
  refine loopUp (P := O) (f := fun i => j (cW ar S) 0 0 5 [(0, .ref (a 0)), (1, .int z), (2, .int g), (3, .int (wantN M z g i)), (4, .int (nI i))] []) (fun i hi ih => ?_) 0 (Nat.zero_le _)
  refine r_iload C0 5 dX4_wantedOf_5 rfl ?_
  refine r_aload_n C0 7 0 dX4_wantedOf_7 rfl rfl ?_
  refine cgR_6 C0 8 hs.2.1.2.2.2.2.2.1 flX4_34 hs.1 dX4_wantedOf_8 ?_
  refine c_call (As := []) C0 11 0 (k_Jx4a65c_size_8abf5 XC_ok od.2.1) (rm_Jx4a65c_size_8abf5 (by decide) (by decide) (Nat.le_refl _) (Nat.le_refl _)) mlX4_53 im_Jx4a65c_size_8abf5 se_Jx4a65c_size_8abf5 (by decide) rfl od.2.1 rfl (Nat.le_of_ble_eq_true rfl) dX4_wantedOf_11 ?_
  rintro _ _ ⟨rfl, rfl⟩
  rw [od.2.2.1]
  refine r_icmp_ge C0 14 63 dX4_wantedOf_14 (by decide) (fun c_14 => ?_) (fun c_14 => ?_)
  · have hge : O ≤ i := (nI_leI (by omega) (by omega)).mp c_14
    refine r_iload_n C0 63 3 dX4_wantedOf_63 rfl rfl ?_
    refine r_iret C 64 dX4_wantedOf_64 (Nat.le_refl _) (Nat.le_refl _) ?_
    have e : i = O := by omega
    subst e
    exact ⟨rfl, rfl⟩
  · have hlt : i < O := Nat.lt_of_not_le (fun q => c_14 (nI_le q (by omega)))
    refine r_aload_n C0 17 0 dX4_wantedOf_17 rfl rfl ?_
    refine cgR_6 C0 18 hs.2.1.2.2.2.2.2.1 flX4_34 hs.1 dX4_wantedOf_18 ?_
    refine r_iload C0 21 dX4_wantedOf_21 rfl ?_
    refine c_call (As := [.int _]) C0 23 1 (k_Jx4a65c_get_915e3 XC_ok od.2 hlt) (rm_Jx4a65c_get_915e3 (by decide) (by decide) (Nat.le_refl _) (Nat.le_refl _)) mlX4_137 im_Jx4a65c_get_915e3 se_Jx4a65c_get_915e3 (by decide) rfl od.2.1 rfl (Nat.le_of_ble_eq_true rfl) dX4_wantedOf_23 ?_
    rintro _ _ ⟨rfl, rfl⟩
    refine ca_cast C0 26 (by decide) rfl clX4_163 (oo i hlt).1 dX4_wantedOf_26 ?_
    refine r_astore (lv' := [(0, _), (1, _), (2, _), (3, _), (4, _), (5, _)]) C0 29 dX4_wantedOf_29 rfl (by decide) rfl ?_
    refine r_iload_n C0 31 1 dX4_wantedOf_31 rfl rfl ?_
    refine r_iload C0 32 dX4_wantedOf_32 rfl ?_
    refine s_call (As := [.int _, .int _]) C0 34 2 (k_X4_hasBit XC_ok _ _ _) (rm_X4_hasBit (by decide) (by decide) (Nat.le_refl _) (Nat.le_refl _)) mlX4_174 st_X4_hasBit rfl (Nat.le_of_ble_eq_true rfl) dX4_wantedOf_34 ?_
    rintro _ _ ⟨rfl, rfl⟩
    refine r_if_eq C0 37 57 dX4_wantedOf_37 (by decide) (fun c_37 => ?_) (fun c_37 => ?_)
    · refine r_iinc (lv' := [(0, _), (1, _), (2, _), (3, _), (4, _), (5, _)]) C0 57 _ dX4_wantedOf_57 rfl rfl rfl (by decide) rfl ?_
      refine r_goto C0 60 5 dX4_wantedOf_60 (by decide) ?_
      have h9 := ih hlt
      rw [← nI_1 i] at h9
      rw [show wantN M z g (i + 1) = wantN M z g i + (if bitN z i = 1 then if M 31 i = g then M 32 i else 0 else 0) from rfl, if_neg (hb_0 c_37)] at h9
      refine r_drop C0 ?_ (by simpa using h9)
      simp
    · refine r_aload C0 40 dX4_wantedOf_40 rfl ?_
      refine cgI_10 C0 42 flX4_181 (oo i hlt).1 dX4_wantedOf_42 ?_
      rw [(oo i hlt).2.1]
      refine r_iload_n C0 45 2 dX4_wantedOf_45 rfl rfl ?_
      refine r_icmp_ne C0 46 57 dX4_wantedOf_46 (by decide) (fun c_46 => ?_) (fun c_46 => ?_)
      · refine r_iinc (lv' := [(0, _), (1, _), (2, _), (3, _), (4, _), (5, _)]) C0 57 _ dX4_wantedOf_57 rfl rfl rfl (by decide) rfl ?_
        refine r_goto C0 60 5 dX4_wantedOf_60 (by decide) ?_
        have h9 := ih hlt
        rw [← nI_1 i] at h9
        rw [show wantN M z g (i + 1) = wantN M z g i + (if bitN z i = 1 then if M 31 i = g then M 32 i else 0 else 0) from rfl, if_pos (hb_1 c_37), if_neg c_46] at h9
        refine r_drop C0 ?_ (by simpa using h9)
        simp
      · refine r_iload_n C0 49 3 dX4_wantedOf_49 rfl rfl ?_
        refine r_aload C0 50 dX4_wantedOf_50 rfl ?_
        refine cgI_11 C0 52 flX4_182 (oo i hlt).1 dX4_wantedOf_52 ?_
        rw [(oo i hlt).2.2.1]
        refine r_iadd C0 55 dX4_wantedOf_55 ?_
        refine r_istore_n (lv' := [(0, _), (1, _), (2, _), (3, _), (4, _), (5, _)]) C0 56 3 dX4_wantedOf_56 rfl rfl (by decide) rfl ?_
        refine r_iinc (lv' := [(0, _), (1, _), (2, _), (3, _), (4, _), (5, _)]) C0 57 _ dX4_wantedOf_57 rfl rfl rfl (by decide) rfl ?_
        refine r_goto C0 60 5 dX4_wantedOf_60 (by decide) ?_
        have h9 := ih hlt
        rw [← nI_1 i] at h9
        rw [show wantN M z g (i + 1) = wantN M z g i + (if bitN z i = 1 then if M 31 i = g then M 32 i else 0 else 0) from rfl, if_pos (hb_1 c_37), if_pos c_46] at h9
        refine r_drop C0 ?_ h9
        simp
set_option maxRecDepth 100000 in
theorem k_X4_canServe (hs : cHs a S M T) (od : cOr te a v w O S M) (oo : cOd w O S M) (z : Int32) {q : Nat} (hq : Is S q 7) (hN : S.2.2.1 q = 6) (hA : ∀ g, g < 6 → S.2.2.2.2.2.2.1 q g = freeN M (nI g) P)  : Cn D ar (XC tg te mi) yX4_canServe cX4_canServe 4 (some .boolean) 4 89 0 0 [.ref (a 0), .int z, .ref q] (cW ar S) (fun r w9 => r = some (.int (canB M z P O O)) ∧ w9 = cW ar S) := by
  refine Cn.of (own := RX4) XC_ok (by decide) rfl (Nat.le_of_ble_eq_true rfl) (fun j C => ?_)
  have C0 := C.to
  show j _ 0 0 0 [(0, _), (1, _), (2, _)] []
  have hO6 := od.1.1
  suffices key : ∀ i, i ≤ O → (∀ o, o < i → bitN z o = 1 → M 34 o = 0) → j (cW ar S) 0 0 2 [(0, .ref (a 0)), (1, .int z), (2, .ref q), (3, .int (nI i))] [] by
    refine r_iconst C0 0 0 dX4_canServe_0 (by decide) ?_
    refine r_istore_n (lv' := [(0, _), (1, _), (2, _), (3, _)]) C0 1 3 dX4_canServe_1 rfl rfl (by decide) rfl ?_
    exact key 0 (Nat.zero_le _) (fun o ho => absurd ho (by omega))
  refine loopUp (P := O) (f := fun i => (∀ o, o < i → bitN z o = 1 → M 34 o = 0) → j (cW ar S) 0 0 2 [(0, .ref (a 0)), (1, .int z), (2, .ref q), (3, .int (nI i))] []) (fun i hi ih hk => ?_)
  refine r_iload_n C0 2 3 dX4_canServe_2 rfl rfl ?_
  refine r_aload_n C0 3 0 dX4_canServe_3 rfl rfl ?_
  refine cgR_6 C0 4 hs.2.1.2.2.2.2.2.1 flX4_34 hs.1 dX4_canServe_4 ?_
  refine c_call (As := []) C0 7 0 (k_Jx4a65c_size_8abf5 XC_ok od.2.1) (rm_Jx4a65c_size_8abf5 (by decide) (by decide) (Nat.le_refl _) (Nat.le_refl _)) mlX4_53 im_Jx4a65c_size_8abf5 se_Jx4a65c_size_8abf5 (by decide) rfl od.2.1 rfl (Nat.le_of_ble_eq_true rfl) dX4_canServe_7 ?_
  rintro _ _ ⟨rfl, rfl⟩
  rw [od.2.2.1]
  refine r_icmp_ge C0 10 46 dX4_canServe_10 (by decide) (fun c_10 => ?_) (fun c_10 => ?_)
  · have hge : O ≤ i := (nI_leI (by omega) (by omega)).mp c_10
    refine r_iconst C0 46 0 dX4_canServe_46 (by decide) ?_
    refine r_istore_n (lv' := [(0, _), (1, _), (2, _), (3, _)]) C0 47 3 dX4_canServe_47 rfl rfl (by decide) rfl ?_
    have e9 : i = O := by omega
    subst e9
    suffices key2 : ∀ g, g ≤ 6 → (∀ k, k < g → ¬ freeN M (nI k) P < wantN M z (nI k) i) → j (cW ar S) 0 0 48 [(0, .ref (a 0)), (1, .int z), (2, .ref q), (3, .int (nI g))] [] from key2 0 (by decide) (fun k hk => absurd hk (by omega))
    refine loopUp (P := 6) (f := fun g => (∀ k, k < g → ¬ freeN M (nI k) P < wantN M z (nI k) i) → j (cW ar S) 0 0 48 [(0, .ref (a 0)), (1, .int z), (2, .ref q), (3, .int (nI g))] []) (fun g hg ih2 hk2 => ?_)
    refine r_iload_n C0 48 3 dX4_canServe_48 rfl rfl ?_
    refine r_aload_n C0 49 2 dX4_canServe_49 rfl rfl ?_
    refine ca_len C0 50 (by decide) hq dX4_canServe_50 ?_
    rw [hN]
    refine r_icmp_ge C0 51 74 dX4_canServe_51 (by decide) (fun c_51 => ?_) (fun c_51 => ?_)
    · have hge2 : 6 ≤ g := (nI_leI (a := 6) (by omega) (by omega)).mp c_51
      refine r_iconst C0 74 1 dX4_canServe_74 (by decide) ?_
      refine r_zret C 75 rfl dX4_canServe_75 (Nat.le_refl _) (Nat.le_refl _) ?_
      have e7 : g = 6 := by omega
      subst e7
      exact ⟨by rw [canB_1 (canA_1 hk2) hk], rfl⟩
    · have hltg : g < 6 := Nat.lt_of_not_le (fun q => c_51 (nI_le (a := 6) q (by omega)))
      refine r_aload_n C0 54 0 dX4_canServe_54 rfl rfl ?_
      refine r_iload_n C0 55 1 dX4_canServe_55 rfl rfl ?_
      refine r_iload_n C0 56 3 dX4_canServe_56 rfl rfl ?_
      refine c_call (As := [.int _, .int _]) C0 57 2 (k_X4_wantedOf hs od oo _ _) (rm_X4_wantedOf (by decide) (by decide) (Nat.le_refl _) (Nat.le_refl _)) mlX4_299 im_X4_wantedOf se_X4_wantedOf (by decide) rfl hs.1 rfl (Nat.le_of_ble_eq_true rfl) dX4_canServe_57 ?_
      rintro _ _ ⟨rfl, rfl⟩
      refine r_aload_n C0 60 2 dX4_canServe_60 rfl rfl ?_
      refine r_iload_n C0 61 3 dX4_canServe_61 rfl rfl ?_
      refine ca_ild C0 62 g hq rfl (by rw [hN]; exact hltg) (by rw [hN]; decide) dX4_canServe_62 ?_
      rw [hA g hltg]
      refine r_icmp_le C0 63 68 dX4_canServe_63 (by decide) (fun c_63 => ?_) (fun c_63 => ?_)
      · refine r_iinc (lv' := [(0, _), (1, _), (2, _), (3, _)]) C0 68 _ dX4_canServe_68 rfl rfl rfl (by decide) rfl ?_
        refine r_goto C0 71 48 dX4_canServe_71 (by decide) ?_
        have h9 := ih2 hltg (fun k hk3 => by
          by_cases qq : k = g
          · rw [qq]; exact Int32.not_lt.mpr c_63
          · exact hk2 k (by omega))
        rw [← nI_1 g] at h9
        exact h9
      · refine r_iconst C0 66 0 dX4_canServe_66 (by decide) ?_
        refine r_zret C 67 rfl dX4_canServe_67 (Nat.le_refl _) (Nat.le_refl _) ?_
        exact ⟨by rw [canB_z (canA_0 (Int32.not_le.mp c_63) hltg)], rfl⟩
  · have hlt : i < O := Nat.lt_of_not_le (fun q => c_10 (nI_le q (by omega)))
    refine r_iload_n C0 13 1 dX4_canServe_13 rfl rfl ?_
    refine r_iload_n C0 14 3 dX4_canServe_14 rfl rfl ?_
    refine s_call (As := [.int _, .int _]) C0 15 2 (k_X4_hasBit XC_ok _ _ _) (rm_X4_hasBit (by decide) (by decide) (Nat.le_refl _) (Nat.le_refl _)) mlX4_174 st_X4_hasBit rfl (Nat.le_of_ble_eq_true rfl) dX4_canServe_15 ?_
    rintro _ _ ⟨rfl, rfl⟩
    refine r_if_eq C0 18 40 dX4_canServe_18 (by decide) (fun c_18 => ?_) (fun c_18 => ?_)
    · refine r_iinc (lv' := [(0, _), (1, _), (2, _), (3, _)]) C0 40 _ dX4_canServe_40 rfl rfl rfl (by decide) rfl ?_
      refine r_goto C0 43 2 dX4_canServe_43 (by decide) ?_
      have h9 := ih hlt (fun o ho hb => by
        by_cases qq : o = i
        · subst qq; exact absurd hb (hb_0 c_18)
        · exact hk o (by omega) hb)
      rw [← nI_1 i] at h9
      exact h9
    · refine r_aload_n C0 21 0 dX4_canServe_21 rfl rfl ?_
      refine cgR_6 C0 22 hs.2.1.2.2.2.2.2.1 flX4_34 hs.1 dX4_canServe_22 ?_
      refine r_iload_n C0 25 3 dX4_canServe_25 rfl rfl ?_
      refine c_call (As := [.int _]) C0 26 1 (k_Jx4a65c_get_915e3 XC_ok od.2 hlt) (rm_Jx4a65c_get_915e3 (by decide) (by decide) (Nat.le_refl _) (Nat.le_refl _)) mlX4_137 im_Jx4a65c_get_915e3 se_Jx4a65c_get_915e3 (by decide) rfl od.2.1 rfl (Nat.le_of_ble_eq_true rfl) dX4_canServe_26 ?_
      rintro _ _ ⟨rfl, rfl⟩
      refine ca_cast C0 29 (by decide) rfl clX4_163 (oo i hlt).1 dX4_canServe_29 ?_
      refine cgI_13 C0 32 flX4_188 (oo i hlt).1 dX4_canServe_32 ?_
      rw [(oo i hlt).2.2.2.2]
      refine r_if_eq C0 35 40 dX4_canServe_35 (by decide) (fun c_35 => ?_) (fun c_35 => ?_)
      · refine r_iinc (lv' := [(0, _), (1, _), (2, _), (3, _)]) C0 40 _ dX4_canServe_40 rfl rfl rfl (by decide) rfl ?_
        refine r_goto C0 43 2 dX4_canServe_43 (by decide) ?_
        have h9 := ih hlt (fun o ho hb => by
          by_cases qq : o = i
          · subst qq; exact c_35
          · exact hk o (by omega) hb)
        rw [← nI_1 i] at h9
        exact h9
      · refine r_iconst C0 38 0 dX4_canServe_38 (by decide) ?_
        refine r_zret C 39 rfl dX4_canServe_39 (Nat.le_refl _) (Nat.le_refl _) ?_
        exact ⟨by rw [canB_0 (hb_1 c_18) c_35 hlt], rfl⟩
def fbS (S : CS) (q : Nat) (f : Nat → Int32) : CS := (S.1 ++ [q], va_up S.2.1 q 7, va_up S.2.2.1 q 6, S.2.2.2.1, S.2.2.2.2.1, S.2.2.2.2.2.1, va_up S.2.2.2.2.2.2.1 q f, va_up S.2.2.2.2.2.2.2 q (fun _ => none))
theorem fbS_ext {S : CS} {q : Nat} {f : Nat → Int32} (hq : q ∉ S.1) : Ext S (fbS S q f) := ⟨fun x hx => by
  have hne : x ≠ q := fun z => hq (z ▸ hx)
  exact ⟨List.mem_append_left _ hx, va_up_ne _ _ hne, va_up_ne _ _ hne, va_up_ne _ _ hne, va_up_ne _ _ hne⟩, rfl, rfl, rfl⟩
theorem fbS_new {S : CS} {q : Nat} {f : Nat → Int32} : Is (fbS S q f) q 7 := ⟨List.mem_append_right _ (List.mem_singleton.mpr rfl), va_up_self _ _ _⟩
theorem fbS_up {S : CS} {q x : Nat} {f : Nat → Int32} {y : Int32} : uA (fbS S q f) q x y = fbS S q (upd f x y) := by
  unfold fbS
  refine congrArg _ (congrArg _ (congrArg _ (congrArg _ (congrArg _ (congrArg _ ?_)))))
  refine congrArg (fun z => (z, va_up S.2.2.2.2.2.2.2 q (fun _ => none))) ?_
  show up2 (va_up S.2.2.2.2.2.2.1 q f) q x y = va_up S.2.2.2.2.2.2.1 q (upd f x y)
  funext g
  by_cases e : g = q
  · subst e
    rw [up2_s, va_up_self, va_up_self]
  · rw [up2_n e, va_up_ne _ _ e, va_up_ne _ _ e]
set_option maxRecDepth 100000 in
theorem k_X4_freeByGrade (ci : CI te a v w E Q W P O S M T)  : Cn D ar (XC tg te mi) yX4_freeByGrade cX4_freeByGrade 3 (some (.array .int)) 4 87 1 6 [.ref (a 0)] (cW ar S) (fun r w9 => ∃ (q : Nat) (f : Nat → Int32), q ∉ S.1 ∧ r = some (.ref q) ∧ w9 = cW ar (fbS S q f) ∧ ∀ g, g < 6 → f g = freeN M (nI g) P) := by
  refine Cn.of (own := RX4) XC_ok (by decide) rfl (Nat.le_of_ble_eq_true rfl) (fun j C => ?_)
  have C0 := C.to
  show j _ 0 0 0 [(0, _)] []
  have hs := ci.1
  refine r_bipush C0 0 6 dX4_freeByGrade_0 (by decide) ?_
  refine ca_newI C0 2 6 rfl (by decide) (Nat.le_of_ble_eq_true rfl) (Nat.le_of_ble_eq_true rfl) dX4_freeByGrade_2 (fun q hq => ?_)
  have hw0 : nA S q 7 6 = fbS S q (fun _ => 0) := rfl
  rw [hw0]
  clear hw0
  refine r_astore_n (lv' := [(0, _), (1, _)]) C0 4 1 dX4_freeByGrade_4 rfl rfl (by decide) rfl ?_
  refine r_iconst C0 5 0 dX4_freeByGrade_5 (by decide) ?_
  refine r_istore_n (lv' := [(0, _), (1, _), (2, _)]) C0 6 2 dX4_freeByGrade_6 rfl rfl (by decide) rfl ?_
  suffices key : ∀ g, g ≤ 6 → ∀ f : Nat → Int32, (∀ k, k < g → f k = freeN M (nI k) P) → j (cW ar (fbS S q f)) 1 6 7 [(0, .ref (a 0)), (1, .ref q), (2, .int (nI g))] [] from key 0 (by decide) _ (fun k hk => absurd hk (by omega))
  refine loopUp (P := 6) (f := fun g => ∀ f : Nat → Int32, (∀ k, k < g → f k = freeN M (nI k) P) → j (cW ar (fbS S q f)) 1 6 7 [(0, .ref (a 0)), (1, .ref q), (2, .int (nI g))] []) (fun g hg ih f hf => ?_)
  have ci2 := (fbS_ext (f := f) hq).ci ci
  refine r_iload_n C0 7 2 dX4_freeByGrade_7 rfl rfl ?_
  refine r_bipush C0 8 6 dX4_freeByGrade_8 (by decide) ?_
  refine r_icmp_ge C0 10 27 dX4_freeByGrade_10 (by decide) (fun c_10 => ?_) (fun c_10 => ?_)
  · have hge : 6 ≤ g := (nI_leI (a := 6) (by omega) (by omega)).mp c_10
    refine r_aload_n C0 27 1 dX4_freeByGrade_27 rfl rfl ?_
    refine r_aret C 28 (by first | exact Or.inl ⟨_, rfl⟩ | exact Or.inr ⟨_, rfl⟩) (by first | exact Or.inr ⟨_, rfl⟩ | exact Or.inl rfl) dX4_freeByGrade_28 (Nat.le_refl _) (Nat.le_refl _) ?_
    have e : g = 6 := by omega
    subst e
    exact ⟨q, f, hq, rfl, rfl, hf⟩
  · have hlt : g < 6 := Nat.lt_of_not_le (fun q => c_10 (nI_le (a := 6) q (by omega)))
    refine r_aload_n C0 13 1 dX4_freeByGrade_13 rfl rfl ?_
    refine r_iload_n C0 14 2 dX4_freeByGrade_14 rfl rfl ?_
    refine r_aload_n C0 15 0 dX4_freeByGrade_15 rfl rfl ?_
    refine r_iload_n C0 16 2 dX4_freeByGrade_16 rfl rfl ?_
    refine c_call (As := [.int _]) C0 17 1 (k_X4_free ci2.1 ci2.2.2.2.1 ci2.2.2.2.2.2.2.2.2.1 _) (rm_X4_free (by decide) (by decide) (Nat.le_of_ble_eq_true rfl) (Nat.le_of_ble_eq_true rfl)) mlX4_296 im_X4_free se_X4_free (by decide) rfl ci2.1.1 rfl (Nat.le_of_ble_eq_true rfl) dX4_freeByGrade_17 ?_
    rintro _ _ ⟨rfl, rfl⟩
    refine ca_ist C0 20 g fbS_new rfl (by rw [show (fbS S q f).2.2.1 q = 6 from va_up_self _ _ _]; exact hlt) (by rw [show (fbS S q f).2.2.1 q = 6 from va_up_self _ _ _]; decide) dX4_freeByGrade_20 ?_
    rw [fbS_up]
    refine r_iinc (lv' := [(0, _), (1, _), (2, _)]) C0 21 _ dX4_freeByGrade_21 rfl rfl rfl (by decide) rfl ?_
    refine r_goto C0 24 7 dX4_freeByGrade_24 (by decide) ?_
    have h9 := ih hlt (upd f g (freeA M P (nI g))) (fun k hk => by
      unfold upd
      by_cases qq : k = g
      · rw [if_pos qq, qq]
        unfold freeA
        have h5 : inR (nI g) 0 5 = 1 := inR_c (nI_pos (by omega)) (Int32.not_lt.mpr (show nI g ≤ nI 5 from nI_le (b := 5) (by omega) (by decide)))
        rw [if_neg (by rw [h5]; decide)]
      · rw [if_neg qq]; exact hf k (by omega))
    rw [← nI_1 g] at h9
    exact h9
set_option maxRecDepth 100000 in
theorem k_X4_bestSet (ci : CI te a v w E Q W P O S M T)  : Cn D ar (XC tg te mi) yX4_bestSet cX4_bestSet 7 (some .int) 5 112 1 6 [.ref (a 0)] (cW ar S) (fun r w9 => r = some (.int (bestS M P O)) ∧ ∃ S', w9 = cW ar S' ∧ Ext S S') := by
  refine Cn.of (own := RX4) XC_ok (by decide) rfl (Nat.le_of_ble_eq_true rfl) (fun j C => ?_)
  have C0 := C.to
  show j _ 0 0 0 [(0, _)] []
  have hs := ci.1
  have hO6 := ci.2.2.2.2.1.1.1
  have hp6 := pow6 hO6
  refine r_aload_n C0 0 0 dX4_bestSet_0 rfl rfl ?_
  refine c_call (As := []) C0 1 0 (k_X4_freeByGrade ci) (rm_X4_freeByGrade (by decide) (by decide) (Nat.le_refl _) (Nat.le_refl _)) mlX4_288 im_X4_freeByGrade se_X4_freeByGrade (by decide) rfl hs.1 rfl (Nat.le_of_ble_eq_true rfl) dX4_bestSet_1 ?_
  rintro _ _ ⟨q, f, hq, rfl, rfl, hf⟩
  have hext := fbS_ext (f := f) hq
  have ci2 := hext.ci ci
  have hqI : Is (fbS S q f) q 7 := fbS_new
  have hqN : (fbS S q f).2.2.1 q = 6 := va_up_self _ _ _
  have hqA : ∀ g, g < 6 → (fbS S q f).2.2.2.2.2.2.1 q g = freeN M (nI g) P := fun g hg => by
    show va_up S.2.2.2.2.2.2.1 q f q g = _
    rw [va_up_self]; exact hf g hg
  generalize fbS S q f = S2 at hext ci2 hqI hqN hqA ⊢
  obtain ⟨hs2, -, -, -, od, -, -, -, -, -, oo, -⟩ := ci2
  refine r_astore_n (lv' := [(0, _), (1, _)]) C0 4 1 dX4_bestSet_4 rfl rfl (by decide) rfl ?_
  refine r_iconst C0 5 0 dX4_bestSet_5 (by decide) ?_
  refine r_istore_n (lv' := [(0, _), (1, _), (2, _)]) C0 6 2 dX4_bestSet_6 rfl rfl (by decide) rfl ?_
  refine r_iconst C0 7 0 dX4_bestSet_7 (by decide) ?_
  refine r_istore_n (lv' := [(0, _), (1, _), (2, _), (3, _)]) C0 8 3 dX4_bestSet_8 rfl rfl (by decide) rfl ?_
  refine r_iconst C0 9 1 dX4_bestSet_9 (by decide) ?_
  refine r_aload_n C0 10 0 dX4_bestSet_10 rfl rfl ?_
  refine cgR_6 C0 11 hs2.2.1.2.2.2.2.2.1 flX4_34 hs2.1 dX4_bestSet_11 ?_
  refine c_call (As := []) C0 14 0 (k_Jx4a65c_size_8abf5 XC_ok od.2.1) (rm_Jx4a65c_size_8abf5 (by decide) (by decide) (Nat.le_of_ble_eq_true rfl) (Nat.le_of_ble_eq_true rfl)) mlX4_53 im_Jx4a65c_size_8abf5 se_Jx4a65c_size_8abf5 (by decide) rfl od.2.1 rfl (Nat.le_of_ble_eq_true rfl) dX4_bestSet_14 ?_
  rintro _ _ ⟨rfl, rfl⟩
  rw [od.2.2.1]
  refine r_ishl C0 17 dX4_bestSet_17 ?_
  rw [shl6 hO6]
  refine r_istore (lv' := [(0, _), (1, _), (2, _), (3, _), (4, _)]) C0 18 dX4_bestSet_18 rfl (by decide) rfl ?_
  refine r_iconst C0 20 1 dX4_bestSet_20 (by decide) ?_
  refine r_istore (lv' := [(0, _), (1, _), (2, _), (3, _), (4, _), (5, _)]) C0 21 dX4_bestSet_21 rfl (by decide) rfl ?_
  refine r_widen C0 1 6 (by decide) (by decide) ?_
  suffices key : ∀ i, i ≤ 2 ^ O - 1 → j (cW ar S2) 1 6 23 [(0, .ref (a 0)), (1, .ref q), (2, .int (bestN M P O i)), (3, .int (worthN M (bestN M P O i) O)), (4, .int (nI (2 ^ O))), (5, .int (nI (i + 1)))] [] by
    have h9 := key 0 (Nat.zero_le _)
    rw [show bestN M P O 0 = 0 from rfl, worthN_z hO6] at h9
    exact h9
  refine loopUp (P := 2 ^ O - 1) (f := fun i => j (cW ar S2) 1 6 23 [(0, .ref (a 0)), (1, .ref q), (2, .int (bestN M P O i)), (3, .int (worthN M (bestN M P O i) O)), (4, .int (nI (2 ^ O))), (5, .int (nI (i + 1)))] []) (fun i hi ih => ?_)
  refine r_iload C0 23 dX4_bestSet_23 rfl ?_
  refine r_iload C0 25 dX4_bestSet_25 rfl ?_
  refine r_icmp_ge C0 27 66 dX4_bestSet_27 (by decide) (fun c_27 => ?_) (fun c_27 => ?_)
  · have hge : 2 ^ O ≤ i + 1 := (nI_leI (by omega) (by omega)).mp c_27
    refine r_iload_n C0 66 2 dX4_bestSet_66 rfl rfl ?_
    refine r_iret C 67 dX4_bestSet_67 (Nat.le_refl _) (Nat.le_refl _) ?_
    have e : i = 2 ^ O - 1 := by omega
    subst e
    exact ⟨rfl, S2, rfl, hext⟩
  · have hlt : i + 1 < 2 ^ O := Nat.lt_of_not_le (fun q => c_27 (nI_le q (by omega)))
    refine r_aload_n C0 30 0 dX4_bestSet_30 rfl rfl ?_
    refine r_iload C0 31 dX4_bestSet_31 rfl ?_
    refine c_call (As := [.int _]) C0 33 1 (k_X4_worthOf hs2 od oo _) (rm_X4_worthOf (by decide) (by decide) (Nat.le_of_ble_eq_true rfl) (Nat.le_of_ble_eq_true rfl)) mlX4_171 im_X4_worthOf se_X4_worthOf (by decide) rfl hs2.1 rfl (Nat.le_of_ble_eq_true rfl) dX4_bestSet_33 ?_
    rintro _ _ ⟨rfl, rfl⟩
    refine r_istore (lv' := [(0, _), (1, _), (2, _), (3, _), (4, _), (5, _), (6, _)]) C0 36 dX4_bestSet_36 rfl (by decide) rfl ?_
    refine r_iload C0 38 dX4_bestSet_38 rfl ?_
    refine r_iload_n C0 40 3 dX4_bestSet_40 rfl rfl ?_
    refine r_icmp_le C0 41 60 dX4_bestSet_41 (by decide) (fun c_41 => ?_) (fun c_41 => ?_)
    · refine r_iinc (lv' := [(0, _), (1, _), (2, _), (3, _), (4, _), (5, _), (6, _)]) C0 60 _ dX4_bestSet_60 rfl rfl rfl (by decide) rfl ?_
      refine r_goto C0 63 23 dX4_bestSet_63 (by decide) ?_
      have h9 := ih (by omega)
      have e9 : bestN M P O (i + 1) = bestN M P O i := by
        show bs1 M P O (i + 1) (bestN M P O i) = _
        unfold bs1
        rw [if_pos c_41]; simp
      rw [e9, ← nI_1 (i + 1)] at h9
      refine r_drop C0 ?_ h9
      simp
    · refine r_aload_n C0 44 0 dX4_bestSet_44 rfl rfl ?_
      refine r_iload C0 45 dX4_bestSet_45 rfl ?_
      refine r_aload_n C0 47 1 dX4_bestSet_47 rfl rfl ?_
      refine c_call (As := [.int _, .ref _]) C0 48 2 (k_X4_canServe hs2 od oo _ hqI hqN hqA) (rm_X4_canServe (by decide) (by decide) (Nat.le_of_ble_eq_true rfl) (Nat.le_of_ble_eq_true rfl)) mlX4_292 im_X4_canServe se_X4_canServe (by decide) rfl hs2.1 rfl (Nat.le_of_ble_eq_true rfl) dX4_bestSet_48 ?_
      rintro _ _ ⟨rfl, rfl⟩
      refine r_if_eq C0 51 60 dX4_bestSet_51 (by decide) (fun c_51 => ?_) (fun c_51 => ?_)
      · refine r_iinc (lv' := [(0, _), (1, _), (2, _), (3, _), (4, _), (5, _), (6, _)]) C0 60 _ dX4_bestSet_60 rfl rfl rfl (by decide) rfl ?_
        refine r_goto C0 63 23 dX4_bestSet_63 (by decide) ?_
        have h9 := ih (by omega)
        have e9 : bestN M P O (i + 1) = bestN M P O i := by
          show bs1 M P O (i + 1) (bestN M P O i) = _
          unfold bs1
          rw [if_pos c_51]
        rw [e9, ← nI_1 (i + 1)] at h9
        refine r_drop C0 ?_ h9
        simp
      · refine r_iload C0 54 dX4_bestSet_54 rfl ?_
        refine r_istore_n (lv' := [(0, _), (1, _), (2, _), (3, _), (4, _), (5, _), (6, _)]) C0 56 2 dX4_bestSet_56 rfl rfl (by decide) rfl ?_
        refine r_iload C0 57 dX4_bestSet_57 rfl ?_
        refine r_istore_n (lv' := [(0, _), (1, _), (2, _), (3, _), (4, _), (5, _), (6, _)]) C0 59 3 dX4_bestSet_59 rfl rfl (by decide) rfl ?_
        refine r_iinc (lv' := [(0, _), (1, _), (2, _), (3, _), (4, _), (5, _), (6, _)]) C0 60 _ dX4_bestSet_60 rfl rfl rfl (by decide) rfl ?_
        refine r_goto C0 63 23 dX4_bestSet_63 (by decide) ?_
        have h9 := ih (by omega)
        have e9 : bestN M P O (i + 1) = nI (i + 1) := by
          show bs1 M P O (i + 1) (bestN M P O i) = _
          unfold bs1
          rw [if_neg c_51, if_neg c_41]
        rw [e9, ← nI_1 (i + 1)] at h9
        refine r_drop C0 ?_ h9
        simp
end C23
