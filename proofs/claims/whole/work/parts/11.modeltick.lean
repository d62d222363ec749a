/-! the model: whereTo, looks, packs, takes, dries, oneTick, tick -/
section M11a
variable {cc : ByteArray} {nL : Nat} {D : va_G} {ar : Nat → ClassId} {X : XT} {R : Room} {j : jT} {h1 : Nat} {ad : Nat → Nat} {M N : Nat → Nat → Int32} {T : Int64} {k n : Nat} {lv : List (Nat × Value)} {st : List Value}
theorem m_ldv (C : Cx0 RX5 cc nL D ar X R j) (pc x : Nat) (v : Int32) {f : Nat} {i : Int32} (hf : mkd f = 0) (hi : i = nI x) (hlt : x < mlen f) (hv : M f x = v) (hd : decode cc pc = .ok (.iaload, 1)) (kk : j (mW ar h1 ad M T) k n (pc + 1) lv (.int v :: st)) : j (mW ar h1 ad M T) k n pc lv (.int i :: .ref (ad f) :: st) := by
  subst hv
  exact m_ld C pc x hf hi hlt hd kk
theorem m_eq {pc : Nat} (h : M = N) (kk : j (mW ar h1 ad N T) k n pc lv st) : j (mW ar h1 ad M T) k n pc lv st := by
  subst h
  exact kk
end M11a
theorem up2_up2 {M : Nat → Nat → Int32} {f a : Nat} {v w : Int32} : up2 (up2 M f a v) f a w = up2 M f a w := by
  funext g
  unfold up2
  by_cases h : g = f
  · rw [if_pos h, if_pos h, if_pos h]
    funext x
    unfold upd
    by_cases e : x = a
    · rw [if_pos e, if_pos e]
    · rw [if_neg e, if_neg e, if_neg e]
  · rw [if_neg h, if_neg h, if_neg h]
theorem up2_sw {M : Nat → Nat → Int32} {f g a b : Nat} {v w : Int32} (h : f ≠ g) : up2 (up2 M f a v) g b w = up2 (up2 M g b w) f a v := by
  funext q
  unfold up2
  by_cases h1 : q = f
  · have h2 : ¬ q = g := fun z => h (h1.symm.trans z)
    rw [if_neg h2, if_pos h1, if_pos h1, if_neg h2]
  · rw [if_neg h1, if_neg h1]
theorem pk6 {M : Nat → Nat → Int32} {a : Nat} {v22 v23 v24 v25 v26 v27 w23 w24 w25 w26 w27 : Int32} : up2 (up2 (up2 (up2 (up2 (up2 (up2 (up2 (up2 (up2 (up2 M 22 a v22) 23 a v23) 24 a v24) 25 a v25) 26 a v26) 27 a v27) 23 a w23) 24 a w24) 25 a w25) 26 a w26) 27 a w27 = up2 (up2 (up2 (up2 (up2 (up2 M 22 a v22) 23 a w23) 24 a w24) 25 a w25) 26 a w26) 27 a w27 := by
  rw [up2_sw (f := 27) (g := 23) (by decide), up2_sw (f := 26) (g := 23) (by decide), up2_sw (f := 25) (g := 23) (by decide), up2_sw (f := 24) (g := 23) (by decide), up2_up2]
  rw [up2_sw (f := 27) (g := 24) (by decide), up2_sw (f := 26) (g := 24) (by decide), up2_sw (f := 25) (g := 24) (by decide), up2_up2]
  rw [up2_sw (f := 27) (g := 25) (by decide), up2_sw (f := 26) (g := 25) (by decide), up2_up2]
  rw [up2_sw (f := 27) (g := 26) (by decide), up2_up2]
  rw [up2_up2]
theorem shf_0 (f : Nat → Int32) : shf f 0 = f := by
  funext k
  unfold shf
  rw [if_neg (by omega)]
theorem shf_s (f : Nat → Int32) (n : Nat) : upd (shf f n) n (f (n + 1)) = shf f (n + 1) := by
  funext k
  unfold upd shf
  by_cases h : k = n
  · rw [if_pos h, if_pos (by omega), h]
  · rw [if_neg h]
    by_cases h2 : k < n
    · rw [if_pos h2, if_pos (by omega)]
    · rw [if_neg h2, if_neg (by omega)]
theorem shf_r (f : Nat → Int32) (n : Nat) : shf f n (n + 1) = f (n + 1) := by
  unfold shf
  rw [if_neg (by omega)]
theorem drS_0 (M : Nat → Nat → Int32) : drS M 0 = M := by
  funext g
  unfold drS
  by_cases h : g = 12
  · rw [if_pos h, shf_0, h]
  · rw [if_neg h]
    by_cases h2 : g = 13
    · rw [if_pos h2, shf_0, h2]
    · rw [if_neg h2]
theorem drS_s (M : Nat → Nat → Int32) (n : Nat) : up2 (up2 (drS M n) 12 n (M 12 (n + 1))) 13 n (M 13 (n + 1)) = drS M (n + 1) := by
  funext g
  by_cases h : g = 12
  · subst h
    exact shf_s (M 12) n
  · by_cases h2 : g = 13
    · subst h2
      exact shf_s (M 13) n
    · rw [up2_n h2, up2_n h]
      unfold drS
      rw [if_neg h, if_neg h2, if_neg h, if_neg h2]
theorem fdS_0 (M : Nat → Nat → Int32) : fdS M 0 = M := by
  funext g
  unfold fdS
  by_cases h : g = 9
  · rw [if_pos h, shf_0, h]
  · rw [if_neg h]
theorem fdS_s (M : Nat → Nat → Int32) (n : Nat) : up2 (fdS M n) 9 n (M 9 (n + 1)) = fdS M (n + 1) := by
  funext g
  by_cases h : g = 9
  · subst h
    exact shf_s (M 9) n
  · rw [up2_n h]
    unfold fdS
    rw [if_neg h, if_neg h]
def mvS (M : Nat → Nat → Int32) (d : Nat) : Nat → Nat → Int32 := fun g => if g = 10 then mvL (M 10) d else M g
theorem mvS_0 (M : Nat → Nat → Int32) : mvS M 0 = M := by
  funext g
  unfold mvS
  by_cases h : g = 10
  · rw [if_pos h, h]
    funext k
    unfold mvL
    rw [if_neg (by omega)]
  · rw [if_neg h]
theorem mvS_s (M : Nat → Nat → Int32) {d : Nat} (hd : d < 15) : up2 (mvS M d) 10 (15 - d) (M 10 (15 - d - 1)) = mvS M (d + 1) := by
  funext g
  by_cases h : g = 10
  · subst h
    show upd (mvL (M 10) d) (15 - d) _ = mvL (M 10) (d + 1)
    funext k
    unfold upd mvL
    by_cases h2 : k = 15 - d
    · rw [if_pos h2, if_pos (by omega), h2]
    · rw [if_neg h2]
      by_cases h3 : 15 - d < k ∧ k ≤ 15
      · rw [if_pos h3, if_pos (by omega)]
      · rw [if_neg h3, if_neg (by omega)]
  · rw [up2_n h]
    unfold mvS
    rw [if_neg h, if_neg h]
theorem mvS_r (M : Nat → Nat → Int32) {d : Nat} : mvS M d 10 (15 - d - 1) = M 10 (15 - d - 1) := by
  show mvL (M 10) d _ = _
  unfold mvL
  rw [if_neg (by omega)]
def tikN (M : Nat → Nat → Int32) (T : Int64) : Nat → (Nat → Nat → Int32) × Int64
  | 0 => (M, T)
  | k + 1 => (otM (tikN M T k).1, otT (tikN M T k).1 (tikN M T k).2)
theorem tikN_ok {M : Nat → Nat → Int32} {T : Int64} {E : Nat} (h : OKM M E) (hE : E ≤ 600) : ∀ k, OKM (tikN M T k).1 E
  | 0 => h
  | k + 1 => okm_ot (tikN_ok h hE k) hE
def tikM (M : Nat → Nat → Int32) (T : Int64) (n : Int32) : (Nat → Nat → Int32) × Int64 := if inR n 1 40 = 0 then (M, T) else tikN M T n.toNatClampNeg
def tikA (M : Nat → Nat → Int32) (T : Int64) (n : Int32) : Int32 := if inR n 1 40 = 0 then -1 else (tikN M T n.toNatClampNeg).1 35 0

section M11
variable {D : va_G} {ar : Nat → ClassId} {X : XT} {h1 : Nat} {ad : Nat → Nat} {M : Nat → Nat → Int32} {T : Int64}
set_option maxRecDepth 100000 in
theorem k5_whereTo (hX : Xok X) {e : Nat} (he : e < 600)  : Cn D ar X yX5_whereTo cX5_whereTo 2 (some .int) 1 20 0 0 [.ref h1, .int (nI e)] (mW ar h1 ad M T) (fun r w => r = some (.int (whN M e)) ∧ w = mW ar h1 ad M (whT M e T)) := by
  refine Cn.of (own := RX5) hX (by decide) rfl (Nat.le_of_ble_eq_true rfl) (fun j C => ?_)
  have C0 := C.to
  show j _ 0 0 0 [(0, _), (1, _)] []
  refine r_aload_n C0 0 0 dX5_whereTo_0 rfl rfl ?_
  refine r_dup C0 1 dX5_whereTo_1 rfl ?_
  refine m_getT C0 2 fl5_112 dX5_whereTo_2 ?_
  refine r_ldc2 C0 5 cl5_116 dX5_whereTo_5 ?_
  refine r_ladd C0 8 dX5_whereTo_8 ?_
  refine m_putT C0 9 fl5_112 dX5_whereTo_9 ?_
  refine r_aload_n C0 12 0 dX5_whereTo_12 rfl rfl ?_
  refine m_getA C0 13 3 (by decide) fl5_16 rfl dX5_whereTo_13 ?_
  refine r_iload_n C0 16 1 dX5_whereTo_16 rfl rfl ?_
  refine m_ld C0 17 e rfl rfl he dX5_whereTo_17 ?_
  refine s_call (As := [.int _]) C0 18 1 (k5_dull hX _ _) (rm5_dull (by decide) (by decide) (Nat.le_refl _) (Nat.le_refl _)) ml5_118 st5_dull rfl (Nat.le_of_ble_eq_true rfl) dX5_whereTo_18 ?_
  rintro _ _ ⟨rfl, rfl⟩
  refine r_iconst C0 21 1 dX5_whereTo_21 (by decide) ?_
  refine r_icmp_le C0 22 27 dX5_whereTo_22 (by decide) (fun c_22 => ?_) (fun c_22 => ?_)
  · refine r_aload_n C0 27 0 dX5_whereTo_27 rfl rfl ?_
    refine r_dup C0 28 dX5_whereTo_28 rfl ?_
    refine m_getT C0 29 fl5_112 dX5_whereTo_29 ?_
    refine r_ldc2 C0 32 cl5_122 dX5_whereTo_32 ?_
    refine r_ladd C0 35 dX5_whereTo_35 ?_
    refine m_putT C0 36 fl5_112 dX5_whereTo_36 ?_
    refine r_aload_n C0 39 0 dX5_whereTo_39 rfl rfl ?_
    refine m_getA C0 40 4 (by decide) fl5_19 rfl dX5_whereTo_40 ?_
    refine r_iload_n C0 43 1 dX5_whereTo_43 rfl rfl ?_
    refine m_ld C0 44 e rfl rfl he dX5_whereTo_44 ?_
    refine r_iconst C0 45 4 dX5_whereTo_45 (by decide) ?_
    refine r_icmp_le C0 46 51 dX5_whereTo_46 (by decide) (fun c_46 => ?_) (fun c_46 => ?_)
    · refine r_aload_n C0 51 0 dX5_whereTo_51 rfl rfl ?_
      refine r_dup C0 52 dX5_whereTo_52 rfl ?_
      refine m_getT C0 53 fl5_112 dX5_whereTo_53 ?_
      refine r_ldc2 C0 56 cl5_124 dX5_whereTo_56 ?_
      refine r_ladd C0 59 dX5_whereTo_59 ?_
      refine m_putT C0 60 fl5_112 dX5_whereTo_60 ?_
      refine r_aload_n C0 63 0 dX5_whereTo_63 rfl rfl ?_
      refine m_getA C0 64 5 (by decide) fl5_22 rfl dX5_whereTo_64 ?_
      refine r_iload_n C0 67 1 dX5_whereTo_67 rfl rfl ?_
      refine m_ld C0 68 e rfl rfl he dX5_whereTo_68 ?_
      refine r_iconst C0 69 1 dX5_whereTo_69 (by decide) ?_
      refine r_icmp_le C0 70 75 dX5_whereTo_70 (by decide) (fun c_70 => ?_) (fun c_70 => ?_)
      · refine r_aload_n C0 75 0 dX5_whereTo_75 rfl rfl ?_
        refine r_dup C0 76 dX5_whereTo_76 rfl ?_
        refine m_getT C0 77 fl5_112 dX5_whereTo_77 ?_
        refine r_lconst C0 80 1 dX5_whereTo_80 (by decide) ?_
        refine r_ladd C0 81 dX5_whereTo_81 ?_
        refine m_putT C0 82 fl5_112 dX5_whereTo_82 ?_
        refine r_iconst C0 85 0 dX5_whereTo_85 (by decide) ?_
        refine r_iret C 86 dX5_whereTo_86 (Nat.le_refl _) (Nat.le_refl _) ?_
        exact ⟨by simp only [whN, eq_true c_22, eq_true c_46, eq_true c_70]; rfl, by simp only [whT, eq_true c_22, eq_true c_46, eq_true c_70]; rfl⟩
      · refine r_iconst C0 73 1 dX5_whereTo_73 (by decide) ?_
        refine r_iret C 74 dX5_whereTo_74 (Nat.le_refl _) (Nat.le_refl _) ?_
        exact ⟨by simp only [whN, eq_true c_22, eq_true c_46, eq_false c_70]; rfl, by simp only [whT, eq_true c_22, eq_true c_46, eq_false c_70]; rfl⟩
    · refine r_iconst C0 49 2 dX5_whereTo_49 (by decide) ?_
      refine r_iret C 50 dX5_whereTo_50 (Nat.le_refl _) (Nat.le_refl _) ?_
      exact ⟨by simp only [whN, eq_true c_22, eq_false c_46]; rfl, by simp only [whT, eq_true c_22, eq_false c_46]; rfl⟩
  · refine r_iconst C0 25 3 dX5_whereTo_25 (by decide) ?_
    refine r_iret C 26 dX5_whereTo_26 (Nat.le_refl _) (Nat.le_refl _) ?_
    exact ⟨by simp only [whN, eq_false c_22]; rfl, by simp only [whT, eq_false c_22]; rfl⟩
set_option maxRecDepth 100000 in
theorem k5_looks (hX : Xok X) {E : Nat} (hE : E ≤ 600) (h : OKM M E)  : Cn D ar X yX5_looks cX5_looks 3 none 2 41 0 0 [.ref h1] (mW ar h1 ad M T) (fun r w => r = none ∧ w = mW ar h1 ad (lkM M) (lkT M T)) := by
  refine Cn.of (own := RX5) hX (by decide) rfl (Nat.le_of_ble_eq_true rfl) (fun j C => ?_)
  have C0 := C.to
  show j _ 0 0 0 [(0, _)] []
  refine r_aload_n C0 0 0 dX5_looks_0 rfl rfl ?_
  refine m_getA C0 1 10 (by decide) fl5_34 rfl dX5_looks_1 ?_
  refine r_iconst C0 4 5 dX5_looks_4 (by decide) ?_
  refine m_ld C0 5 5 rfl rfl (by decide) dX5_looks_5 ?_
  refine r_iconst C0 6 1 dX5_looks_6 (by decide) ?_
  refine r_isub C0 7 dX5_looks_7 ?_
  refine r_istore_n (lv' := [(0, _), (1, _)]) C0 8 1 dX5_looks_8 rfl rfl (by decide) rfl ?_
  refine r_iload_n C0 9 1 dX5_looks_9 rfl rfl ?_
  refine r_if_ge C0 10 17 dX5_looks_10 (by decide) (fun c_10 => ?_) (fun c_10 => ?_)
  · obtain ⟨heE, hve⟩ := h.egg hE (k := 5) (by decide) (Int32.not_lt.mpr c_10)
    rw [hve]
    obtain ⟨W, hW30, hW, -⟩ := h.2.2.1
    have hcW : (M 11 0).toNatClampNeg = W := by rw [hW]; exact nI_clamp (by omega)
    obtain ⟨b, hb4, hb0⟩ := h.2.2.2.2.2 _ heE
    have hbN : bN M (eN M 5) = b := by unfold bN; rw [hb0]; exact nI_clamp (by omega)
    have hb : M 1 (eN M 5) = nI (bN M (eN M 5)) := by rw [hbN]; exact hb0
    refine r_aload_n C0 17 0 dX5_looks_17 rfl rfl ?_
    refine r_iload_n C0 18 1 dX5_looks_18 rfl rfl ?_
    refine m_call (As := [.int _]) C0 19 1 (k5_whereTo hX (by omega)) (rm5_whereTo (by decide) (by decide) (Nat.le_refl _) (Nat.le_refl _)) ml5_126 im5_whereTo se5_whereTo rfl (Nat.le_of_ble_eq_true rfl) dX5_looks_19 ?_
    rintro _ _ ⟨rfl, rfl⟩
    refine r_istore_n (lv' := [(0, _), (1, _), (2, _)]) C0 22 2 dX5_looks_22 rfl rfl (by decide) rfl ?_
    refine r_iload_n C0 23 2 dX5_looks_23 rfl rfl ?_
    refine r_if_ne C0 24 28 dX5_looks_24 (by decide) (fun c_24 => ?_) (fun c_24 => ?_)
    · refine r_aload_n C0 28 0 dX5_looks_28 rfl rfl ?_
      refine m_getA C0 29 10 (by decide) fl5_34 rfl dX5_looks_29 ?_
      refine r_iconst C0 32 5 dX5_looks_32 (by decide) ?_
      refine r_iconst C0 33 0 dX5_looks_33 (by decide) ?_
      refine m_st C0 34 5 rfl rfl (by decide) dX5_looks_34 ?_
      refine r_iload_n C0 35 2 dX5_looks_35 rfl rfl ?_
      refine r_iconst C0 36 1 dX5_looks_36 (by decide) ?_
      refine r_icmp_ne C0 37 105 dX5_looks_37 (by decide) (fun c_37 => ?_) (fun c_37 => ?_)
      · refine r_aload_n C0 105 0 dX5_looks_105 rfl rfl ?_
        refine m_getA C0 106 15 (by decide) fl5_43 rfl dX5_looks_106 ?_
        refine r_iload_n C0 109 2 dX5_looks_109 rfl rfl ?_
        refine r_iconst C0 110 3 dX5_looks_110 (by decide) ?_
        refine r_icmp_ne C0 111 118 dX5_looks_111 (by decide) (fun c_111 => ?_) (fun c_111 => ?_)
        · refine r_iconst C0 118 0 dX5_looks_118 (by decide) ?_
          refine r_aload_n C0 119 0 dX5_looks_119 rfl rfl ?_
          refine m_getA C0 120 1 (by decide) fl5_7 rfl dX5_looks_120 ?_
          refine r_iload_n C0 123 1 dX5_looks_123 rfl rfl ?_
          refine m_ld C0 124 (eN M 5) rfl rfl (show eN M 5 < 600 by omega) dX5_looks_124 ?_
          refine r_iadd C0 125 dX5_looks_125 ?_
          refine r_dup2 C0 126 dX5_looks_126 rfl rfl ?_
          refine m_ld C0 127 (0 + bN M (eN M 5)) rfl (nI_add' (a := 0) rfl hb) (show _ < 20 by omega) dX5_looks_127 ?_
          refine r_iconst C0 128 1 dX5_looks_128 (by decide) ?_
          refine r_iadd C0 129 dX5_looks_129 ?_
          refine m_st C0 130 (0 + bN M (eN M 5)) rfl (nI_add' (a := 0) rfl hb) (show _ < 20 by omega) dX5_looks_130 ?_
          refine r_vret C 131 dX5_looks_131 (Nat.le_refl _) (Nat.le_refl _) ?_
          exact ⟨rfl, by simp only [lkM, lkT, lk2, eq_true c_10, eq_false c_24, eq_false c_37, eq_false c_111]; rfl⟩
        · refine r_iconst C0 114 4 dX5_looks_114 (by decide) ?_
          refine r_goto C0 115 119 dX5_looks_115 (by decide) ?_
          refine r_aload_n C0 119 0 dX5_looks_119 rfl rfl ?_
          refine m_getA C0 120 1 (by decide) fl5_7 rfl dX5_looks_120 ?_
          refine r_iload_n C0 123 1 dX5_looks_123 rfl rfl ?_
          refine m_ld C0 124 (eN M 5) rfl rfl (show eN M 5 < 600 by omega) dX5_looks_124 ?_
          refine r_iadd C0 125 dX5_looks_125 ?_
          refine r_dup2 C0 126 dX5_looks_126 rfl rfl ?_
          refine m_ld C0 127 (4 + bN M (eN M 5)) rfl (nI_add' (a := 4) rfl hb) (show _ < 20 by omega) dX5_looks_127 ?_
          refine r_iconst C0 128 1 dX5_looks_128 (by decide) ?_
          refine r_iadd C0 129 dX5_looks_129 ?_
          refine m_st C0 130 (4 + bN M (eN M 5)) rfl (nI_add' (a := 4) rfl hb) (show _ < 20 by omega) dX5_looks_130 ?_
          refine r_vret C 131 dX5_looks_131 (Nat.le_refl _) (Nat.le_refl _) ?_
          exact ⟨rfl, by simp only [lkM, lkT, lk2, eq_true c_10, eq_false c_24, eq_false c_37, eq_true c_111]; rfl⟩
      · refine r_aload_n C0 40 0 dX5_looks_40 rfl rfl ?_
        refine m_getI C0 41 11 rfl fl5_129 rfl dX5_looks_41 ?_
        refine r_bipush C0 44 30 dX5_looks_44 (by decide) ?_
        refine r_icmp_ge C0 46 105 dX5_looks_46 (by decide) (fun c_46 => ?_) (fun c_46 => ?_)
        · refine r_aload_n C0 105 0 dX5_looks_105 rfl rfl ?_
          refine m_getA C0 106 15 (by decide) fl5_43 rfl dX5_looks_106 ?_
          refine r_iload_n C0 109 2 dX5_looks_109 rfl rfl ?_
          refine r_iconst C0 110 3 dX5_looks_110 (by decide) ?_
          refine r_icmp_ne C0 111 118 dX5_looks_111 (by decide) (fun c_111 => ?_) (fun c_111 => ?_)
          · refine r_iconst C0 118 0 dX5_looks_118 (by decide) ?_
            refine r_aload_n C0 119 0 dX5_looks_119 rfl rfl ?_
            refine m_getA C0 120 1 (by decide) fl5_7 rfl dX5_looks_120 ?_
            refine r_iload_n C0 123 1 dX5_looks_123 rfl rfl ?_
            refine m_ld C0 124 (eN M 5) rfl rfl (show eN M 5 < 600 by omega) dX5_looks_124 ?_
            refine r_iadd C0 125 dX5_looks_125 ?_
            refine r_dup2 C0 126 dX5_looks_126 rfl rfl ?_
            refine m_ld C0 127 (0 + bN M (eN M 5)) rfl (nI_add' (a := 0) rfl hb) (show _ < 20 by omega) dX5_looks_127 ?_
            refine r_iconst C0 128 1 dX5_looks_128 (by decide) ?_
            refine r_iadd C0 129 dX5_looks_129 ?_
            refine m_st C0 130 (0 + bN M (eN M 5)) rfl (nI_add' (a := 0) rfl hb) (show _ < 20 by omega) dX5_looks_130 ?_
            refine r_vret C 131 dX5_looks_131 (Nat.le_refl _) (Nat.le_refl _) ?_
            exact ⟨rfl, by simp only [lkM, lkT, lk2, eq_true c_10, eq_false c_24, eq_true c_37, eq_true c_46, eq_false c_111]; rw [if_pos (show 30 ≤ M 11 0 from c_46)]; rfl⟩
          · exact absurd (c_37.symm.trans c_111) (by decide)
        · have hltW : W < 30 := Nat.lt_of_not_le (fun q => c_46 (by show 30 ≤ M 11 0; rw [hW]; exact nI_le (a := 30) q (by omega)))
          refine r_aload_n C0 49 0 dX5_looks_49 rfl rfl ?_
          refine m_getA C0 50 12 (by decide) fl5_37 rfl dX5_looks_50 ?_
          refine r_aload_n C0 53 0 dX5_looks_53 rfl rfl ?_
          refine m_getI C0 54 11 rfl fl5_129 rfl dX5_looks_54 ?_
          refine r_iload_n C0 57 1 dX5_looks_57 rfl rfl ?_
          refine m_st C0 58 W rfl hW hltW dX5_looks_58 ?_
          refine r_aload_n C0 59 0 dX5_looks_59 rfl rfl ?_
          refine m_getA C0 60 13 (by decide) fl5_40 rfl dX5_looks_60 ?_
          refine r_aload_n C0 63 0 dX5_looks_63 rfl rfl ?_
          refine m_getI C0 64 11 rfl fl5_129 rfl dX5_looks_64 ?_
          refine r_aload_n C0 67 0 dX5_looks_67 rfl rfl ?_
          refine m_getI C0 68 35 rfl fl5_98 rfl dX5_looks_68 ?_
          refine r_bipush C0 71 8 dX5_looks_71 (by decide) ?_
          refine r_iadd C0 73 dX5_looks_73 ?_
          refine m_st C0 74 W rfl hW hltW dX5_looks_74 ?_
          refine r_aload_n C0 75 0 dX5_looks_75 rfl rfl ?_
          refine r_dup C0 76 dX5_looks_76 rfl ?_
          refine m_getI C0 77 11 rfl fl5_129 rfl dX5_looks_77 ?_
          refine r_iconst C0 80 1 dX5_looks_80 (by decide) ?_
          refine r_iadd C0 81 dX5_looks_81 ?_
          refine m_put C0 82 11 rfl fl5_129 rfl dX5_looks_82 ?_
          refine r_aload_n C0 85 0 dX5_looks_85 rfl rfl ?_
          refine r_dup C0 86 dX5_looks_86 rfl ?_
          refine m_getI C0 87 14 rfl fl5_132 rfl dX5_looks_87 ?_
          refine r_iconst C0 90 1 dX5_looks_90 (by decide) ?_
          refine r_iadd C0 91 dX5_looks_91 ?_
          refine m_put C0 92 14 rfl fl5_132 rfl dX5_looks_92 ?_
          refine r_aload_n C0 95 0 dX5_looks_95 rfl rfl ?_
          refine m_getA C0 96 5 (by decide) fl5_22 rfl dX5_looks_96 ?_
          refine r_iload_n C0 99 1 dX5_looks_99 rfl rfl ?_
          refine r_iconst C0 100 0 dX5_looks_100 (by decide) ?_
          refine m_st C0 101 (eN M 5) rfl rfl (show eN M 5 < 600 by omega) dX5_looks_101 ?_
          refine r_goto C0 102 131 dX5_looks_102 (by decide) ?_
          refine r_vret C 131 dX5_looks_131 (Nat.le_refl _) (Nat.le_refl _) ?_
          exact ⟨rfl, by simp only [lkM, lkT, lk2, lkW, eq_false (show ¬ 30 ≤ M 11 0 from c_46), eq_true c_10, eq_false c_24, eq_true c_37, eq_false c_46]; rw [show (up2 M 10 5 0 11 0).toNatClampNeg = W from hcW]; rfl⟩
    · refine r_vret C 27 dX5_looks_27 (Nat.le_refl _) (Nat.le_refl _) ?_
      exact ⟨rfl, by simp only [lkM, lkT, lk2, eq_true c_10, eq_true c_24]; rfl⟩
  · refine r_iconst C0 13 0 dX5_looks_13 (by decide) ?_
    refine r_goto C0 14 22 dX5_looks_14 (by decide) ?_
    refine r_istore_n (lv' := [(0, _), (1, _), (2, _)]) C0 22 2 dX5_looks_22 rfl rfl (by decide) rfl ?_
    refine r_iload_n C0 23 2 dX5_looks_23 rfl rfl ?_
    refine r_if_ne C0 24 28 dX5_looks_24 (by decide) (fun c_24 => ?_) (fun c_24 => ?_)
    · exact absurd rfl c_24
    · refine r_vret C 27 dX5_looks_27 (Nat.le_refl _) (Nat.le_refl _) ?_
      exact ⟨rfl, by simp only [lkM, lkT, eq_false c_10]; rfl⟩
theorem pkI_23 {M : Nat → Nat → Int32} {p a k : Nat} : pkI M p a k 23 a = btsN M p k := pk_us
theorem pkI_24 {M : Nat → Nat → Int32} {p a k : Nat} : pkI M p a k 24 a = trF M p k := pk_us
theorem pkI_25 {M : Nat → Nat → Int32} {p a k : Nat} : pkI M p a k 25 a = trL M p k := pk_us
theorem pkI_26 {M : Nat → Nat → Int32} {p a k : Nat} : pkI M p a k 26 a = trW M p k := pk_us
theorem pkI_27 {M : Nat → Nat → Int32} {p a k : Nat} : pkI M p a k 27 a = trT M p k := pk_us
set_option maxRecDepth 100000 in
theorem k5_packs (hX : Xok X) {p P : Nat} (hp : p < 4) (hP : M 21 0 = nI P) (hP6 : P < 60) (ht : ∀ k, k < 6 → ∃ e : Nat, e < 600 ∧ M 20 (6 * p + k) = nI e)  : Cn D ar X yX5_packs cX5_packs 5 none 0 0 0 0 [.ref h1, .int (nI p)] (mW ar h1 ad M T) (fun r w => r = none ∧ w = mW ar h1 ad (pkM M p P) T) := by
  refine Cn.of (own := RX5) hX (by decide) rfl (Nat.le_of_ble_eq_true rfl) (fun j C => ?_)
  have C0 := C.to
  show j _ 0 0 0 [(0, _), (1, _)] []
  obtain ⟨e0, he0, hee0⟩ := ht 0 (by decide)
  have htr0 : trE M p 0 = e0 := by unfold trE; rw [hee0]; exact nI_clamp (by omega)
  refine r_aload_n C0 0 0 dX5_packs_0 rfl rfl ?_
  refine m_getI C0 1 21 rfl fl5_135 rfl dX5_packs_1 ?_
  refine r_istore_n (lv' := [(0, _), (1, _), (2, _)]) C0 4 2 dX5_packs_4 rfl rfl (by decide) rfl ?_
  rw [hP]
  refine r_aload_n C0 5 0 dX5_packs_5 rfl rfl ?_
  refine m_getA C0 6 22 (by decide) fl5_62 rfl dX5_packs_6 ?_
  refine r_iload_n C0 9 2 dX5_packs_9 rfl rfl ?_
  refine r_aload_n C0 10 0 dX5_packs_10 rfl rfl ?_
  refine m_getA C0 11 16 (by decide) fl5_46 rfl dX5_packs_11 ?_
  refine r_iload_n C0 14 1 dX5_packs_14 rfl rfl ?_
  refine m_ld C0 15 p rfl rfl hp dX5_packs_15 ?_
  refine m_st C0 16 P rfl rfl hP6 dX5_packs_16 ?_
  refine r_aload_n C0 17 0 dX5_packs_17 rfl rfl ?_
  refine m_getA C0 18 23 (by decide) fl5_65 rfl dX5_packs_18 ?_
  refine r_iload_n C0 21 2 dX5_packs_21 rfl rfl ?_
  refine r_iconst C0 22 0 dX5_packs_22 (by decide) ?_
  refine m_st C0 23 P rfl rfl hP6 dX5_packs_23 ?_
  refine r_aload_n C0 24 0 dX5_packs_24 rfl rfl ?_
  refine m_getA C0 25 24 (by decide) fl5_68 rfl dX5_packs_25 ?_
  refine r_iload_n C0 28 2 dX5_packs_28 rfl rfl ?_
  refine r_aload_n C0 29 0 dX5_packs_29 rfl rfl ?_
  refine m_getA C0 30 7 (by decide) fl5_28 rfl dX5_packs_30 ?_
  refine r_aload_n C0 33 0 dX5_packs_33 rfl rfl ?_
  refine m_getA C0 34 20 (by decide) fl5_59 rfl dX5_packs_34 ?_
  refine r_bipush C0 37 6 dX5_packs_37 (by decide) ?_
  refine r_iload_n C0 39 1 dX5_packs_39 rfl rfl ?_
  refine r_imul C0 40 dX5_packs_40 ?_
  refine m_ld C0 41 (6 * p) rfl (nI_mul' (a := 6) rfl rfl) (show _ < 24 by omega) dX5_packs_41 ?_
  refine m_ld C0 42 e0 rfl hee0 he0 dX5_packs_42 ?_
  refine m_st C0 43 P rfl rfl hP6 dX5_packs_43 ?_
  refine r_aload_n C0 44 0 dX5_packs_44 rfl rfl ?_
  refine m_getA C0 45 25 (by decide) fl5_71 rfl dX5_packs_45 ?_
  refine r_iload_n C0 48 2 dX5_packs_48 rfl rfl ?_
  refine r_aload_n C0 49 0 dX5_packs_49 rfl rfl ?_
  refine m_getA C0 50 24 (by decide) fl5_68 rfl dX5_packs_50 ?_
  refine r_iload_n C0 53 2 dX5_packs_53 rfl rfl ?_
  refine m_ldv C0 54 P (M 7 e0) rfl rfl hP6 pk_us dX5_packs_54 ?_
  refine m_st C0 55 P rfl rfl hP6 dX5_packs_55 ?_
  refine r_aload_n C0 56 0 dX5_packs_56 rfl rfl ?_
  refine m_getA C0 57 26 (by decide) fl5_74 rfl dX5_packs_57 ?_
  refine r_iload_n C0 60 2 dX5_packs_60 rfl rfl ?_
  refine r_iconst C0 61 0 dX5_packs_61 (by decide) ?_
  refine m_st C0 62 P rfl rfl hP6 dX5_packs_62 ?_
  refine r_aload_n C0 63 0 dX5_packs_63 rfl rfl ?_
  refine m_getA C0 64 27 (by decide) fl5_77 rfl dX5_packs_64 ?_
  refine r_iload_n C0 67 2 dX5_packs_67 rfl rfl ?_
  refine r_iconst C0 68 0 dX5_packs_68 (by decide) ?_
  refine m_st C0 69 P rfl rfl hP6 dX5_packs_69 ?_
  refine r_iconst C0 70 0 dX5_packs_70 (by decide) ?_
  refine r_istore_n (lv' := [(0, _), (1, _), (2, _), (3, _)]) C0 71 3 dX5_packs_71 rfl rfl (by decide) rfl ?_
  refine m_eq (N := pkI M p P 0) ?_ ?_
  · unfold pkI
    rw [show trF M p 0 = M 7 e0 by unfold trF; rw [htr0], show trL M p 0 = M 7 e0 by unfold trL; rw [htr0]]
    rfl
  refine loopUp (P := 6) (f := fun k => j (mW ar h1 ad (pkI M p P k) T) 0 0 72 [(0, .ref h1), (1, .int (nI p)), (2, .int (nI P)), (3, .int (nI k))] []) (fun k hi ih => ?_) 0 (Nat.zero_le _)
  refine r_iload_n C0 72 3 dX5_packs_72 rfl rfl ?_
  refine r_bipush C0 73 6 dX5_packs_73 (by decide) ?_
  refine r_icmp_ge C0 75 223 dX5_packs_75 (by decide) (fun c_75 => ?_) (fun c_75 => ?_)
  · have hge : 6 ≤ k := (nI_leI (a := 6) (by omega) (by omega)).mp c_75
    have e9 : k = 6 := by omega
    subst e9
    refine r_aload_n C0 223 0 dX5_packs_223 rfl rfl ?_
    refine m_getA C0 224 28 (by decide) fl5_80 rfl dX5_packs_224 ?_
    refine r_iload_n C0 227 2 dX5_packs_227 rfl rfl ?_
    refine r_bipush C0 228 (-9) dX5_packs_228 (by decide) ?_
    refine m_st C0 230 P rfl rfl hP6 dX5_packs_230 ?_
    refine r_aload_n C0 231 0 dX5_packs_231 rfl rfl ?_
    refine m_getA C0 232 29 (by decide) fl5_83 rfl dX5_packs_232 ?_
    refine r_iload_n C0 235 2 dX5_packs_235 rfl rfl ?_
    refine r_iconst C0 236 0 dX5_packs_236 (by decide) ?_
    refine m_stz C0 237 P rfl rfl hP6 rfl dX5_packs_237 ?_
    refine r_aload_n C0 238 0 dX5_packs_238 rfl rfl ?_
    refine m_getA C0 239 19 (by decide) fl5_56 rfl dX5_packs_239 ?_
    refine r_iload_n C0 242 1 dX5_packs_242 rfl rfl ?_
    refine r_iconst C0 243 0 dX5_packs_243 (by decide) ?_
    refine m_st C0 244 p rfl rfl hp dX5_packs_244 ?_
    refine r_aload_n C0 245 0 dX5_packs_245 rfl rfl ?_
    refine r_dup C0 246 dX5_packs_246 rfl ?_
    refine m_getI C0 247 21 rfl fl5_135 rfl dX5_packs_247 ?_
    refine r_iconst C0 250 1 dX5_packs_250 (by decide) ?_
    refine r_iadd C0 251 dX5_packs_251 ?_
    refine m_put C0 252 21 rfl fl5_135 rfl dX5_packs_252 ?_
    refine r_vret C 255 dX5_packs_255 (Nat.le_refl _) (Nat.le_refl _) ?_
    exact ⟨rfl, rfl⟩
  · have hlt : k < 6 := Nat.lt_of_not_le (fun q => c_75 (nI_le (a := 6) q (by omega)))
    obtain ⟨e, he, hee⟩ := ht k hlt
    have htr : trE M p k = e := by unfold trE; rw [hee]; exact nI_clamp (by omega)
    have eB : btsN M p (k + 1) = btsN M p k ||| (1 <<< (M 1 e &&& 31)) := by
      show btsN M p k ||| _ = _
      rw [hee, nI_clamp (by omega)]
    have eW : trW M p (k + 1) = trW M p k + M 2 e := by
      show trW M p k + M 2 (trE M p k) = _
      rw [htr]
    have eT : trT M p (k + 1) = trT M p k + M 6 e := by
      show trT M p k + M 6 (trE M p k) = _
      rw [htr]
    have eF : trF M p (k + 1) = if trF M p k ≤ M 7 e then trF M p k else M 7 e := by
      show (if trF M p k ≤ M 7 (trE M p k) then trF M p k else M 7 (trE M p k)) = _
      rw [htr]
    have eL : trL M p (k + 1) = if M 7 e ≤ trL M p k then trL M p k else M 7 e := by
      show (if M 7 (trE M p k) ≤ trL M p k then trL M p k else M 7 (trE M p k)) = _
      rw [htr]
    refine r_aload_n C0 78 0 dX5_packs_78 rfl rfl ?_
    refine m_getA C0 79 20 (by decide) fl5_59 rfl dX5_packs_79 ?_
    refine r_bipush C0 82 6 dX5_packs_82 (by decide) ?_
    refine r_iload_n C0 84 1 dX5_packs_84 rfl rfl ?_
    refine r_imul C0 85 dX5_packs_85 ?_
    refine r_iload_n C0 86 3 dX5_packs_86 rfl rfl ?_
    refine r_iadd C0 87 dX5_packs_87 ?_
    refine m_ld C0 88 (6 * p + k) rfl (nI_add' (nI_mul' (a := 6) rfl rfl) rfl) (show _ < 24 by omega) dX5_packs_88 ?_
    refine r_istore (lv' := [(0, _), (1, _), (2, _), (3, _), (4, _)]) C0 89 dX5_packs_89 rfl (by decide) rfl ?_
    refine r_aload_n C0 91 0 dX5_packs_91 rfl rfl ?_
    refine m_getA C0 92 23 (by decide) fl5_65 rfl dX5_packs_92 ?_
    refine r_iload_n C0 95 2 dX5_packs_95 rfl rfl ?_
    refine r_dup2 C0 96 dX5_packs_96 rfl rfl ?_
    refine m_ldv C0 97 P (btsN M p k) rfl rfl hP6 pkI_23 dX5_packs_97 ?_
    refine r_iconst C0 98 1 dX5_packs_98 (by decide) ?_
    refine r_aload_n C0 99 0 dX5_packs_99 rfl rfl ?_
    refine m_getA C0 100 1 (by decide) fl5_7 rfl dX5_packs_100 ?_
    refine r_iload C0 103 dX5_packs_103 rfl ?_
    refine m_ldv C0 105 e (M 1 e) rfl hee he rfl dX5_packs_105 ?_
    refine r_ishl C0 106 dX5_packs_106 ?_
    refine r_ior C0 107 dX5_packs_107 ?_
    refine m_st C0 108 P rfl rfl hP6 dX5_packs_108 ?_
    refine r_aload_n C0 109 0 dX5_packs_109 rfl rfl ?_
    refine m_getA C0 110 24 (by decide) fl5_68 rfl dX5_packs_110 ?_
    refine r_iload_n C0 113 2 dX5_packs_113 rfl rfl ?_
    refine r_aload_n C0 114 0 dX5_packs_114 rfl rfl ?_
    refine m_getA C0 115 7 (by decide) fl5_28 rfl dX5_packs_115 ?_
    refine r_iload C0 118 dX5_packs_118 rfl ?_
    refine m_ldv C0 120 e (M 7 e) rfl hee he rfl dX5_packs_120 ?_
    refine r_aload_n C0 121 0 dX5_packs_121 rfl rfl ?_
    refine m_getA C0 122 24 (by decide) fl5_68 rfl dX5_packs_122 ?_
    refine r_iload_n C0 125 2 dX5_packs_125 rfl rfl ?_
    refine m_ldv C0 126 P (trF M p k) rfl rfl hP6 (by simp (decide := true) only [up2_n]; exact pkI_24) dX5_packs_126 ?_
    refine r_icmp_ge C0 127 140 dX5_packs_127 (by decide) (fun c_127 => ?_) (fun c_127 => ?_)
    · refine r_aload_n C0 140 0 dX5_packs_140 rfl rfl ?_
      refine m_getA C0 141 24 (by decide) fl5_68 rfl dX5_packs_141 ?_
      refine r_iload_n C0 144 2 dX5_packs_144 rfl rfl ?_
      refine m_ldv C0 145 P (trF M p k) rfl rfl hP6 (by simp (decide := true) only [up2_n]; exact pkI_24) dX5_packs_145 ?_
      refine m_st C0 146 P rfl rfl hP6 dX5_packs_146 ?_
      refine r_aload_n C0 147 0 dX5_packs_147 rfl rfl ?_
      refine m_getA C0 148 25 (by decide) fl5_71 rfl dX5_packs_148 ?_
      refine r_iload_n C0 151 2 dX5_packs_151 rfl rfl ?_
      refine r_aload_n C0 152 0 dX5_packs_152 rfl rfl ?_
      refine m_getA C0 153 7 (by decide) fl5_28 rfl dX5_packs_153 ?_
      refine r_iload C0 156 dX5_packs_156 rfl ?_
      refine m_ldv C0 158 e (M 7 e) rfl hee he rfl dX5_packs_158 ?_
      refine r_aload_n C0 159 0 dX5_packs_159 rfl rfl ?_
      refine m_getA C0 160 25 (by decide) fl5_71 rfl dX5_packs_160 ?_
      refine r_iload_n C0 163 2 dX5_packs_163 rfl rfl ?_
      refine m_ldv C0 164 P (trL M p k) rfl rfl hP6 (by simp (decide := true) only [up2_n]; exact pkI_25) dX5_packs_164 ?_
      refine r_icmp_le C0 165 178 dX5_packs_165 (by decide) (fun c_165 => ?_) (fun c_165 => ?_)
      · refine r_aload_n C0 178 0 dX5_packs_178 rfl rfl ?_
        refine m_getA C0 179 25 (by decide) fl5_71 rfl dX5_packs_179 ?_
        refine r_iload_n C0 182 2 dX5_packs_182 rfl rfl ?_
        refine m_ldv C0 183 P (trL M p k) rfl rfl hP6 (by simp (decide := true) only [up2_n]; exact pkI_25) dX5_packs_183 ?_
        refine m_st C0 184 P rfl rfl hP6 dX5_packs_184 ?_
        refine r_aload_n C0 185 0 dX5_packs_185 rfl rfl ?_
        refine m_getA C0 186 26 (by decide) fl5_74 rfl dX5_packs_186 ?_
        refine r_iload_n C0 189 2 dX5_packs_189 rfl rfl ?_
        refine r_dup2 C0 190 dX5_packs_190 rfl rfl ?_
        refine m_ldv C0 191 P (trW M p k) rfl rfl hP6 (by simp (decide := true) only [up2_n]; exact pkI_26) dX5_packs_191 ?_
        refine r_aload_n C0 192 0 dX5_packs_192 rfl rfl ?_
        refine m_getA C0 193 2 (by decide) fl5_13 rfl dX5_packs_193 ?_
        refine r_iload C0 196 dX5_packs_196 rfl ?_
        refine m_ldv C0 198 e (M 2 e) rfl hee he rfl dX5_packs_198 ?_
        refine r_iadd C0 199 dX5_packs_199 ?_
        refine m_st C0 200 P rfl rfl hP6 dX5_packs_200 ?_
        refine r_aload_n C0 201 0 dX5_packs_201 rfl rfl ?_
        refine m_getA C0 202 27 (by decide) fl5_77 rfl dX5_packs_202 ?_
        refine r_iload_n C0 205 2 dX5_packs_205 rfl rfl ?_
        refine r_dup2 C0 206 dX5_packs_206 rfl rfl ?_
        refine m_ldv C0 207 P (trT M p k) rfl rfl hP6 (by simp (decide := true) only [up2_n]; exact pkI_27) dX5_packs_207 ?_
        refine r_aload_n C0 208 0 dX5_packs_208 rfl rfl ?_
        refine m_getA C0 209 6 (by decide) fl5_25 rfl dX5_packs_209 ?_
        refine r_iload C0 212 dX5_packs_212 rfl ?_
        refine m_ldv C0 214 e (M 6 e) rfl hee he rfl dX5_packs_214 ?_
        refine r_iadd C0 215 dX5_packs_215 ?_
        refine m_st C0 216 P rfl rfl hP6 dX5_packs_216 ?_
        refine r_iinc (lv' := [(0, _), (1, _), (2, _), (3, _), (4, _)]) C0 217 _ dX5_packs_217 rfl rfl rfl (by decide) rfl ?_
        refine r_goto C0 220 72 dX5_packs_220 (by decide) ?_
        have h9 := ih hlt
        rw [← nI_1] at h9
        refine m_eq (N := pkI M p P (k + 1)) ?_ (r_drop C0 ?_ h9)
        · refine pk6.trans ?_
          unfold pkI
          rw [eB, eF, eL, eW, eT, if_pos c_127, if_pos c_165]
        · simp [show Int32.ofInt 1 = (1 : Int32) from rfl]
      · refine r_aload_n C0 168 0 dX5_packs_168 rfl rfl ?_
        refine m_getA C0 169 7 (by decide) fl5_28 rfl dX5_packs_169 ?_
        refine r_iload C0 172 dX5_packs_172 rfl ?_
        refine m_ldv C0 174 e (M 7 e) rfl hee he rfl dX5_packs_174 ?_
        refine r_goto C0 175 184 dX5_packs_175 (by decide) ?_
        refine m_st C0 184 P rfl rfl hP6 dX5_packs_184 ?_
        refine r_aload_n C0 185 0 dX5_packs_185 rfl rfl ?_
        refine m_getA C0 186 26 (by decide) fl5_74 rfl dX5_packs_186 ?_
        refine r_iload_n C0 189 2 dX5_packs_189 rfl rfl ?_
        refine r_dup2 C0 190 dX5_packs_190 rfl rfl ?_
        refine m_ldv C0 191 P (trW M p k) rfl rfl hP6 (by simp (decide := true) only [up2_n]; exact pkI_26) dX5_packs_191 ?_
        refine r_aload_n C0 192 0 dX5_packs_192 rfl rfl ?_
        refine m_getA C0 193 2 (by decide) fl5_13 rfl dX5_packs_193 ?_
        refine r_iload C0 196 dX5_packs_196 rfl ?_
        refine m_ldv C0 198 e (M 2 e) rfl hee he rfl dX5_packs_198 ?_
        refine r_iadd C0 199 dX5_packs_199 ?_
        refine m_st C0 200 P rfl rfl hP6 dX5_packs_200 ?_
        refine r_aload_n C0 201 0 dX5_packs_201 rfl rfl ?_
        refine m_getA C0 202 27 (by decide) fl5_77 rfl dX5_packs_202 ?_
        refine r_iload_n C0 205 2 dX5_packs_205 rfl rfl ?_
        refine r_dup2 C0 206 dX5_packs_206 rfl rfl ?_
        refine m_ldv C0 207 P (trT M p k) rfl rfl hP6 (by simp (decide := true) only [up2_n]; exact pkI_27) dX5_packs_207 ?_
        refine r_aload_n C0 208 0 dX5_packs_208 rfl rfl ?_
        refine m_getA C0 209 6 (by decide) fl5_25 rfl dX5_packs_209 ?_
        refine r_iload C0 212 dX5_packs_212 rfl ?_
        refine m_ldv C0 214 e (M 6 e) rfl hee he rfl dX5_packs_214 ?_
        refine r_iadd C0 215 dX5_packs_215 ?_
        refine m_st C0 216 P rfl rfl hP6 dX5_packs_216 ?_
        refine r_iinc (lv' := [(0, _), (1, _), (2, _), (3, _), (4, _)]) C0 217 _ dX5_packs_217 rfl rfl rfl (by decide) rfl ?_
        refine r_goto C0 220 72 dX5_packs_220 (by decide) ?_
        have h9 := ih hlt
        rw [← nI_1] at h9
        refine m_eq (N := pkI M p P (k + 1)) ?_ (r_drop C0 ?_ h9)
        · refine pk6.trans ?_
          unfold pkI
          rw [eB, eF, eL, eW, eT, if_pos c_127, if_neg c_165]
        · simp [show Int32.ofInt 1 = (1 : Int32) from rfl]
    · refine r_aload_n C0 130 0 dX5_packs_130 rfl rfl ?_
      refine m_getA C0 131 7 (by decide) fl5_28 rfl dX5_packs_131 ?_
      refine r_iload C0 134 dX5_packs_134 rfl ?_
      refine m_ldv C0 136 e (M 7 e) rfl hee he rfl dX5_packs_136 ?_
      refine r_goto C0 137 146 dX5_packs_137 (by decide) ?_
      refine m_st C0 146 P rfl rfl hP6 dX5_packs_146 ?_
      refine r_aload_n C0 147 0 dX5_packs_147 rfl rfl ?_
      refine m_getA C0 148 25 (by decide) fl5_71 rfl dX5_packs_148 ?_
      refine r_iload_n C0 151 2 dX5_packs_151 rfl rfl ?_
      refine r_aload_n C0 152 0 dX5_packs_152 rfl rfl ?_
      refine m_getA C0 153 7 (by decide) fl5_28 rfl dX5_packs_153 ?_
      refine r_iload C0 156 dX5_packs_156 rfl ?_
      refine m_ldv C0 158 e (M 7 e) rfl hee he rfl dX5_packs_158 ?_
      refine r_aload_n C0 159 0 dX5_packs_159 rfl rfl ?_
      refine m_getA C0 160 25 (by decide) fl5_71 rfl dX5_packs_160 ?_
      refine r_iload_n C0 163 2 dX5_packs_163 rfl rfl ?_
      refine m_ldv C0 164 P (trL M p k) rfl rfl hP6 (by simp (decide := true) only [up2_n]; exact pkI_25) dX5_packs_164 ?_
      refine r_icmp_le C0 165 178 dX5_packs_165 (by decide) (fun c_165 => ?_) (fun c_165 => ?_)
      · refine r_aload_n C0 178 0 dX5_packs_178 rfl rfl ?_
        refine m_getA C0 179 25 (by decide) fl5_71 rfl dX5_packs_179 ?_
        refine r_iload_n C0 182 2 dX5_packs_182 rfl rfl ?_
        refine m_ldv C0 183 P (trL M p k) rfl rfl hP6 (by simp (decide := true) only [up2_n]; exact pkI_25) dX5_packs_183 ?_
        refine m_st C0 184 P rfl rfl hP6 dX5_packs_184 ?_
        refine r_aload_n C0 185 0 dX5_packs_185 rfl rfl ?_
        refine m_getA C0 186 26 (by decide) fl5_74 rfl dX5_packs_186 ?_
        refine r_iload_n C0 189 2 dX5_packs_189 rfl rfl ?_
        refine r_dup2 C0 190 dX5_packs_190 rfl rfl ?_
        refine m_ldv C0 191 P (trW M p k) rfl rfl hP6 (by simp (decide := true) only [up2_n]; exact pkI_26) dX5_packs_191 ?_
        refine r_aload_n C0 192 0 dX5_packs_192 rfl rfl ?_
        refine m_getA C0 193 2 (by decide) fl5_13 rfl dX5_packs_193 ?_
        refine r_iload C0 196 dX5_packs_196 rfl ?_
        refine m_ldv C0 198 e (M 2 e) rfl hee he rfl dX5_packs_198 ?_
        refine r_iadd C0 199 dX5_packs_199 ?_
        refine m_st C0 200 P rfl rfl hP6 dX5_packs_200 ?_
        refine r_aload_n C0 201 0 dX5_packs_201 rfl rfl ?_
        refine m_getA C0 202 27 (by decide) fl5_77 rfl dX5_packs_202 ?_
        refine r_iload_n C0 205 2 dX5_packs_205 rfl rfl ?_
        refine r_dup2 C0 206 dX5_packs_206 rfl rfl ?_
        refine m_ldv C0 207 P (trT M p k) rfl rfl hP6 (by simp (decide := true) only [up2_n]; exact pkI_27) dX5_packs_207 ?_
        refine r_aload_n C0 208 0 dX5_packs_208 rfl rfl ?_
        refine m_getA C0 209 6 (by decide) fl5_25 rfl dX5_packs_209 ?_
        refine r_iload C0 212 dX5_packs_212 rfl ?_
        refine m_ldv C0 214 e (M 6 e) rfl hee he rfl dX5_packs_214 ?_
        refine r_iadd C0 215 dX5_packs_215 ?_
        refine m_st C0 216 P rfl rfl hP6 dX5_packs_216 ?_
        refine r_iinc (lv' := [(0, _), (1, _), (2, _), (3, _), (4, _)]) C0 217 _ dX5_packs_217 rfl rfl rfl (by decide) rfl ?_
        refine r_goto C0 220 72 dX5_packs_220 (by decide) ?_
        have h9 := ih hlt
        rw [← nI_1] at h9
        refine m_eq (N := pkI M p P (k + 1)) ?_ (r_drop C0 ?_ h9)
        · refine pk6.trans ?_
          unfold pkI
          rw [eB, eF, eL, eW, eT, if_neg c_127, if_pos c_165]
        · simp [show Int32.ofInt 1 = (1 : Int32) from rfl]
      · refine r_aload_n C0 168 0 dX5_packs_168 rfl rfl ?_
        refine m_getA C0 169 7 (by decide) fl5_28 rfl dX5_packs_169 ?_
        refine r_iload C0 172 dX5_packs_172 rfl ?_
        refine m_ldv C0 174 e (M 7 e) rfl hee he rfl dX5_packs_174 ?_
        refine r_goto C0 175 184 dX5_packs_175 (by decide) ?_
        refine m_st C0 184 P rfl rfl hP6 dX5_packs_184 ?_
        refine r_aload_n C0 185 0 dX5_packs_185 rfl rfl ?_
        refine m_getA C0 186 26 (by decide) fl5_74 rfl dX5_packs_186 ?_
        refine r_iload_n C0 189 2 dX5_packs_189 rfl rfl ?_
        refine r_dup2 C0 190 dX5_packs_190 rfl rfl ?_
        refine m_ldv C0 191 P (trW M p k) rfl rfl hP6 (by simp (decide := true) only [up2_n]; exact pkI_26) dX5_packs_191 ?_
        refine r_aload_n C0 192 0 dX5_packs_192 rfl rfl ?_
        refine m_getA C0 193 2 (by decide) fl5_13 rfl dX5_packs_193 ?_
        refine r_iload C0 196 dX5_packs_196 rfl ?_
        refine m_ldv C0 198 e (M 2 e) rfl hee he rfl dX5_packs_198 ?_
        refine r_iadd C0 199 dX5_packs_199 ?_
        refine m_st C0 200 P rfl rfl hP6 dX5_packs_200 ?_
        refine r_aload_n C0 201 0 dX5_packs_201 rfl rfl ?_
        refine m_getA C0 202 27 (by decide) fl5_77 rfl dX5_packs_202 ?_
        refine r_iload_n C0 205 2 dX5_packs_205 rfl rfl ?_
        refine r_dup2 C0 206 dX5_packs_206 rfl rfl ?_
        refine m_ldv C0 207 P (trT M p k) rfl rfl hP6 (by simp (decide := true) only [up2_n]; exact pkI_27) dX5_packs_207 ?_
        refine r_aload_n C0 208 0 dX5_packs_208 rfl rfl ?_
        refine m_getA C0 209 6 (by decide) fl5_25 rfl dX5_packs_209 ?_
        refine r_iload C0 212 dX5_packs_212 rfl ?_
        refine m_ldv C0 214 e (M 6 e) rfl hee he rfl dX5_packs_214 ?_
        refine r_iadd C0 215 dX5_packs_215 ?_
        refine m_st C0 216 P rfl rfl hP6 dX5_packs_216 ?_
        refine r_iinc (lv' := [(0, _), (1, _), (2, _), (3, _), (4, _)]) C0 217 _ dX5_packs_217 rfl rfl rfl (by decide) rfl ?_
        refine r_goto C0 220 72 dX5_packs_220 (by decide) ?_
        have h9 := ih hlt
        rw [← nI_1] at h9
        refine m_eq (N := pkI M p P (k + 1)) ?_ (r_drop C0 ?_ h9)
        · refine pk6.trans ?_
          unfold pkI
          rw [eB, eF, eL, eW, eT, if_neg c_127, if_neg c_165]
        · simp [show Int32.ofInt 1 = (1 : Int32) from rfl]
end M11
