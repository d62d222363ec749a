/-! the law's loop; the law from its entry -/
theorem l_cond {L c : Nat} (hL : L ≤ 3072) (hc : c ≤ 512) : nI L - 6 < nI (6 * c) ↔ L < 6 * c + 6 := by
  by_cases h : 6 ≤ L
  · rw [show (6 : Int32) = nI 6 from rfl, pk_sub h, nI_ltI (by omega) (by omega)]
    omega
  · constructor
    · intro _; omega
    · intro _
      refine Int32.lt_of_lt_of_le ?_ (nI_pos' (n := 6 * c) (by omega))
      rcases (show L = 0 ∨ L = 1 ∨ L = 2 ∨ L = 3 ∨ L = 4 ∨ L = 5 by omega) with rfl | rfl | rfl | rfl | rfl | rfl <;> decide
section C46
variable {D : va_G} {ar : Nat → ClassId} {tg te mi : Nat} {b L : Nat} {xs : Nat → Int32} {j : jT} {a : Nat → Nat} {h1 : Nat} {ad : Nat → Nat}
set_option maxRecDepth 100000 in
theorem law_loop (CL : CxL D ar (XC tg te mi) b L xs j) (hL : L ≤ 3072) : ∀ c, c ≤ 512 → (fun c => ∀ (S : CS) (v : Nat → Nat) (w : Nat → Nat → Nat) (E Q W P O now : Nat) (M : Nat → Nat → Int32) (T : Int64), CI te a v w E Q W P O S M T → CapOK v → Iv M E now → E ≤ c → now ≤ 40 * c → j (cW ar S ++ mW ar h1 ad M T) (50 + 360 * c) (5021 + 7560 * c) 18 [(0, .ref b), (1, .ref (a 0)), (2, .ref h1), (3, .int (nI (6 * c)))] []) c := by
  have C0 := CL.to
  refine loopUp (P := 512) (f := fun c => ∀ (S : CS) (v : Nat → Nat) (w : Nat → Nat → Nat) (E Q W P O now : Nat) (M : Nat → Nat → Int32) (T : Int64), CI te a v w E Q W P O S M T → CapOK v → Iv M E now → E ≤ c → now ≤ 40 * c → j (cW ar S ++ mW ar h1 ad M T) (50 + 360 * c) (5021 + 7560 * c) 18 [(0, .ref b), (1, .ref (a 0)), (2, .ref h1), (3, .int (nI (6 * c)))] []) (fun c hc ih S v w E Q W P O now M T ci cp iv hE hn => ?_)
  refine r_iload_n C0 18 3 dL_law_18 rfl rfl ?_
  refine r_aload_n C0 19 0 dL_law_19 rfl rfl ?_
  refine r_slen CL 20 dL_law_20 ?_
  refine r_bipush C0 21 6 dL_law_21 (by decide) ?_
  refine r_isub C0 23 dL_law_23 ?_
  refine r_icmp_gt C0 24 783 dL_law_24 (by decide) (fun c_24 => ?_) (fun c_24 => ?_)
  · refine r_iconst C0 783 1 dL_law_783 (by decide) ?_
    exact l_end CL (by omega) (by omega)
  · have hc6 : 6 * c + 6 ≤ L := Nat.le_of_not_lt (fun q => c_24 ((l_cond hL hc).mpr q))
    refine r_aload_n C0 27 0 dL_law_27 rfl rfl ?_
    refine r_iload_n C0 28 3 dL_law_28 rfl rfl ?_
    refine r_sld CL 29 (6 * c) rfl (by omega) (by omega) dL_law_29 ?_
    refine r_bipush C0 30 31 dL_law_30 (by decide) ?_
    refine r_iand C0 32 dL_law_32 ?_
    have hlt : c < 512 := by omega
    have K : LK j te a ar h1 ad b c (50 + 360 * c) (5021 + 7560 * c) := by
      intro S2 v2 w2 E2 Q2 W2 P2 O2 now2 M2 T2 c2 cp2 iv2 hE2 hn2
      refine r_iinc (lv' := [(0, _), (1, _), (2, _), (3, _)]) C0 777 _ dL_law_777 rfl rfl rfl (by decide) rfl ?_
      refine r_goto C0 780 18 dL_law_780 (by decide) ?_
      have h9 := ih hlt S2 v2 w2 E2 Q2 W2 P2 O2 now2 M2 T2 c2 cp2 iv2 hE2 hn2
      rw [show nI (6 * c) + Int32.ofInt 6 = nI (6 * (c + 1)) from nI_add (6 * c) 6]
      exact r_widen C0 (50 + 360 * (c + 1)) (5021 + 7560 * (c + 1)) (by omega) (by omega) h9
    generalize xs (6 * c) &&& 31 = z
    rcases swc 20 (by decide) z with ⟨i, hi, rfl⟩ | ho
    · rcases (show i = 0 ∨ i = 1 ∨ i = 2 ∨ i = 3 ∨ i = 4 ∨ i = 5 ∨ i = 6 ∨ i = 7 ∨ i = 8 ∨ i = 9 ∨ i = 10 ∨ i = 11 ∨ i = 12 ∨ i = 13 ∨ i = 14 ∨ i = 15 ∨ i = 16 ∨ i = 17 ∨ i = 18 ∨ i = 19 by omega) with rfl | rfl | rfl | rfl | rfl | rfl | rfl | rfl | rfl | rfl | rfl | rfl | rfl | rfl | rfl | rfl | rfl | rfl | rfl | rfl
      · refine r_tableIn C0 33 128 dL_law_33 (by decide) (by decide) rfl (by decide) ?_
        exact law_0 CL hL hc6 ci cp iv hE hn (by omega) (by omega) K
      · refine r_tableIn C0 33 191 dL_law_33 (by decide) (by decide) rfl (by decide) ?_
        exact law_1 CL hL hc6 ci cp iv hE hn (by omega) (by omega) K
      · refine r_tableIn C0 33 214 dL_law_33 (by decide) (by decide) rfl (by decide) ?_
        exact law_2 CL hL hc6 ci cp iv hE hn (by omega) (by omega) K
      · refine r_tableIn C0 33 237 dL_law_33 (by decide) (by decide) rfl (by decide) ?_
        exact law_3 CL hL hc6 ci cp iv hE hn (by omega) (by omega) K
      · refine r_tableIn C0 33 270 dL_law_33 (by decide) (by decide) rfl (by decide) ?_
        exact law_4 CL hL hc6 ci cp iv hE hn (by omega) (by omega) K
      · refine r_tableIn C0 33 319 dL_law_33 (by decide) (by decide) rfl (by decide) ?_
        exact law_5 CL hL hc6 ci cp iv hE hn (by omega) (by omega) K
      · refine r_tableIn C0 33 352 dL_law_33 (by decide) (by decide) rfl (by decide) ?_
        exact law_6 CL hL hc6 ci cp iv hE hn (by omega) (by omega) K
      · refine r_tableIn C0 33 385 dL_law_33 (by decide) (by decide) rfl (by decide) ?_
        exact law_7 CL hL hc6 ci cp iv hE hn (by omega) (by omega) K
      · refine r_tableIn C0 33 408 dL_law_33 (by decide) (by decide) rfl (by decide) ?_
        exact law_8 CL hL hc6 ci cp iv hE hn (by omega) (by omega) K
      · refine r_tableIn C0 33 441 dL_law_33 (by decide) (by decide) rfl (by decide) ?_
        exact law_9 CL hL hc6 ci cp iv hE hn (by omega) (by omega) K
      · refine r_tableIn C0 33 474 dL_law_33 (by decide) (by decide) rfl (by decide) ?_
        exact law_10 CL hL hc6 ci cp iv hE hn (by omega) (by omega) K
      · refine r_tableIn C0 33 497 dL_law_33 (by decide) (by decide) rfl (by decide) ?_
        exact law_11 CL hL hc6 ci cp iv hE hn (by omega) (by omega) K
      · refine r_tableIn C0 33 540 dL_law_33 (by decide) (by decide) rfl (by decide) ?_
        exact law_12 CL hL hc6 ci cp iv hE hn (by omega) (by omega) K
      · refine r_tableIn C0 33 563 dL_law_33 (by decide) (by decide) rfl (by decide) ?_
        exact law_13 CL hL hc6 ci cp iv hE hn (by omega) (by omega) K
      · refine r_tableIn C0 33 576 dL_law_33 (by decide) (by decide) rfl (by decide) ?_
        exact law_14 CL hL hc6 ci cp iv hE hn (by omega) (by omega) K
      · refine r_tableIn C0 33 609 dL_law_33 (by decide) (by decide) rfl (by decide) ?_
        exact law_15 CL hL hc6 ci cp iv hE hn (by omega) (by omega) K
      · refine r_tableIn C0 33 658 dL_law_33 (by decide) (by decide) rfl (by decide) ?_
        exact law_16 CL hL hc6 ci cp iv hE hn (by omega) (by omega) K
      · refine r_tableIn C0 33 717 dL_law_33 (by decide) (by decide) rfl (by decide) ?_
        exact law_17 CL hL hc6 ci cp iv hE hn (by omega) (by omega) K
      · refine r_tableIn C0 33 740 dL_law_33 (by decide) (by decide) rfl (by decide) ?_
        exact law_18 CL hL hc6 ci cp iv hE hn (by omega) (by omega) K
      · refine r_tableIn C0 33 763 dL_law_33 (by decide) (by decide) rfl (by decide) ?_
        exact law_19 CL hL hc6 ci cp iv hE hn (by omega) (by omega) K
    · refine r_tableOut C0 33 777 dL_law_33 ho (by decide) ?_
      exact r_widen C0 _ _ (by omega) (by omega) (K S v w E Q W P O now M T ci cp iv (by omega) (by omega))
end C46
set_option maxRecDepth 100000 in
set_option maxHeartbeats 4000000 in
theorem law_start {D : va_G} {ar : Nat → ClassId} {tg te mi : Nat} {b L : Nat} {xs : Nat → Int32} {j : jT} (CL : CxL D ar (XC tg te mi) b L xs j) (hL : L ≤ 3072) : j [] 0 0 0 [(0, .ref b)] [] := by
  have C0 := CL.to
  show j (cW ar eS) 0 0 0 [(0, .ref b)] []
  refine ca_new4 C0 0 clL_7 (Nat.le_of_ble_eq_true rfl) (Nat.le_of_ble_eq_true rfl) dL_law_0 (fun q hq => ?_)
  refine r_dup C0 3 dL_law_3 rfl ?_
  refine c_init (As := []) C0 4 0 (k_X4_init (h := q)) (rm_X4_init (Nat.le_of_ble_eq_true rfl) (Nat.le_of_ble_eq_true rfl) (Nat.le_of_ble_eq_true rfl) (Nat.le_of_ble_eq_true rfl)) mlL_9 im_X4_init rfl rfl (Nat.le_of_ble_eq_true rfl) dL_law_4 ?_
  rintro _ _ ⟨rfl, S, a, v, w, rfl, rfl, ci, cp⟩
  refine r_astore_n (lv' := [(0, _), (1, _)]) C0 7 1 dL_law_7 rfl rfl (by decide) rfl ?_
  refine l_new5 C0 8 clL_10 (Nat.le_of_ble_eq_true rfl) (Nat.le_of_ble_eq_true rfl) dL_law_8 (fun h1 => ?_)
  refine r_dup C0 11 dL_law_11 rfl ?_
  refine r_callI (wl := cW ar S) (wc := [(h1, .inr (5, mZ))]) (As := []) C0 12 0 (k5_init XC_ok) (rm5_init (Nat.le_of_ble_eq_true rfl) (Nat.le_of_ble_eq_true rfl) (Nat.le_of_ble_eq_true rfl) (Nat.le_of_ble_eq_true rfl)) mlL_12 im5_init rfl rfl (Nat.le_of_ble_eq_true rfl) dL_law_12 ?_
  rintro _ _ ⟨rfl, ad, rfl⟩
  refine r_astore_n (lv' := [(0, _), (1, _), (2, _)]) C0 15 2 dL_law_15 rfl rfl (by decide) rfl ?_
  refine r_iconst C0 16 0 dL_law_16 (by decide) ?_
  refine r_istore_n (lv' := [(0, _), (1, _), (2, _), (3, _)]) C0 17 3 dL_law_17 rfl rfl (by decide) rfl ?_
  exact law_loop CL hL 0 (by decide) S v w 0 0 0 0 0 0 M0 0 ci cp Iv_start (Nat.le_refl _) (Nat.le_refl _)
set_option maxHeartbeats 4000000 in
set_option maxRecDepth 100000 in
/-- from the entry, for every script of at most 3072 ints, the law comes to its end with true -/
theorem whole_start {p : Program} {e : Env} {s : State} {m : MethodId} {below : List Frame} {meth : Method} {c : Code} (l : Launch) {b L : Nat} {xs : Nat → Int32} (hL : L ≤ 3072) (C0 : lw_At p s m meth c b L xs) : W p l e room_1 s m #[Value.ref b] below meth c s.heap [] 0 0 (lw_Z below #[Value.ref b] s) (entryFrame m ([Value.ref b] : List Value).toArray 4) := by
  obtain ⟨tg, te, mi, hXs⟩ := XC_start C0
  obtain ⟨D, ar, hK⟩ := K_start C0 hXs
  obtain ⟨hx, hb, hr, hml, hown, hts, hX, hbl, hlocks, hgv⟩ := id C0
  have CL : CxL D ar (XC tg te mi) b L xs (JJ p l e room_1 s m #[Value.ref b] below meth c (fun q : Nat => s.heap.size ≤ q) D 4 (lw_Z below #[Value.ref b] s)) :=
    ⟨p, l, e, s, m, below, meth, c, ⟨hx, hb, hml, hown, fun w h => hts w (gtbl_of h), hK, fun q h => h, XC_ok, hXs⟩, ⟨hX, hbl⟩, ⟨hr, hlocks⟩, rfl⟩
  rw [lg_entry_eq]
  exact law_start CL hL s.heap [] _ (fun k q h => by simp at h) ⟨fun i j p q h => by simp at h, fun k q h => by simp at h⟩ va_S.rf (lv_entry ([.ref b]) (n := 4) (Nat.le_of_ble_eq_true rfl))
