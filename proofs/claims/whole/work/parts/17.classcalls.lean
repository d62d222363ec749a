/-! the class: new, calls, casts, the library's natives -/
theorem cE_inr {ar : Nat → ClassId} {S : CS} {a kd : Nat} (hk : kd = 0 ∨ kd = 1 ∨ kd = 2 ∨ kd = 3 ∨ kd = 4 ∨ kd = 6) (h : S.2.1 a = kd) : ∃ fs, cE ar S a = .inr (kd, fs) := by
  rcases hk with rfl | rfl | rfl | rfl | rfl | rfl
  · exact ⟨_, cE_0 h⟩
  · exact ⟨_, cE_1 h⟩
  · exact ⟨_, cE_2 h⟩
  · exact ⟨_, cE_3 h⟩
  · exact ⟨_, cE_4 h⟩
  · exact ⟨_, cE_6 h⟩
section CC
variable {own : String} {cc : ByteArray} {nL : Nat} {D : va_G} {ar : Nat → ClassId} {tg te mi : Nat} {X : XT} {R : Room} {j : jT}
variable {S : CS} {k n : Nat} {lv : List (Nat × Value)} {st rest : List Value}
variable {y : MethodName} {bytes : ByteArray} {maxL fr lo mc ms index : Nat} {ret : Option FieldType} {As : List Value} {Ret : Option Value → va_W → Prop} {b : Nat}
theorem c_call (C : Cx0 own cc nL D ar X R j) (pc np : Nat) {kd : Nat} {CC : String} {T9 : u_T} {N9 : Nat} (hM : Cn D ar X y bytes maxL ret fr lo mc ms (.ref b :: As) (cW ar S) Ret) (hR : Rm R k n y bytes maxL ret fr lo mc ms np) (hl1 : Cond.methodLink own index y ∈ gtbl) (hl2 : Cond.instanceMethod y ∈ gtbl) (hl3 : Cond.selects CC y y ∈ gtbl)
    (hk : kd = 0 ∨ kd = 1 ∨ kd = 2 ∨ kd = 3 ∨ kd = 4 ∨ kd = 6) (hc : cls7[kd]? = some (CC, T9, N9)) (hb0 : Is S b kd) (hn : As.length = np) (hr : (rest.map fun v => v.category).sum ≤ 8) (hd : decode cc pc = .ok (.invokevirtual index, 3))
    (kk : ∀ (r : Option Value) (wc' : va_W), Ret r wc' → j wc' (k + mc) (n + ms) (pc + 3) lv (r.toList ++ rest)) : j (cW ar S) k n pc lv (As.reverse ++ .ref b :: rest) := by
  obtain ⟨fs, he⟩ := cE_inr (ar := ar) hk hb0.2
  obtain ⟨q, hq⟩ := cW_get hb0.1 he
  exact r_callV (wl := []) C pc np hM hR hl1 hl2 hl3 q kd hq hc hn hr hd kk
theorem c_init (C : Cx0 own cc nL D ar X R j) (pc np : Nat) {ws : va_W} (hM : Cn D ar X y bytes maxL none fr lo mc ms (.ref b :: As) ws Ret) (hR : Rm R k n y bytes maxL none fr lo mc ms np) (hl1 : Cond.methodLink own index y ∈ gtbl) (hl2 : Cond.instanceMethod y ∈ gtbl) (hy1 : y.name = "<init>")
    (hn : As.length = np) (hr : (rest.map fun v => v.category).sum ≤ 8) (hd : decode cc pc = .ok (.invokespecial index, 3))
    (kk : ∀ (r : Option Value) (wc' : va_W), Ret r wc' → j wc' (k + mc) (n + ms) (pc + 3) lv (r.toList ++ rest)) : j ws k n pc lv (As.reverse ++ .ref b :: rest) :=
  r_callI (wl := []) C pc np hM hR hl1 hl2 hy1 hn hr hd kk
/-- a private constructor of a nest mate -/
theorem c_initN (C : Cx0 own cc nL D ar X R j) (pc np : Nat) {ws : va_W} {host : String} (hM : Cn D ar X y bytes maxL none fr lo mc ms (.ref b :: As) ws Ret) (hR : Rm R k n y bytes maxL none fr lo mc ms np) (hl1 : ∀ A s, X A s s.heap → va_Nw (.methodLinkNest own index y host) s) (hl2 : Cond.instanceMethod y ∈ gtbl) (hy1 : y.name = "<init>")
    (hn : As.length = np) (hr : (rest.map fun v => v.category).sum ≤ 8) (hd : decode cc pc = .ok (.invokespecial index, 3))
    (kk : ∀ (r : Option Value) (wc' : va_W), Ret r wc' → j wc' (k + mc) (n + ms) (pc + 3) lv (r.toList ++ rest)) : j ws k n pc lv (As.reverse ++ .ref b :: rest) := by
  obtain ⟨p, l, e, s, m, args, below, meth, c, A, Q, ⟨hx, hb, hml, hown, hts, hK, hA, hX, hXs⟩, rfl⟩ := C
  intro H locs ls hP hD hS hl
  refine xx_behind (wl := []) (va_runIN (As := As) (rest := rest) ⟨hx, hb, hml, hown, hts⟩ (hM l H.size) ⟨va_cnB np hts (gtbl_cons hR.2.2.1) rfl rfl rfl (hl1 A s hXs) (hts _ hR.2.2.2.1) hR.2.2.2.2 hR.1, hy1, hts _ hl2⟩ ⟨xx_blind hX, fun U hU hW => ⟨rfl, xx_pre hX hXs hK hA hP hD hS U hU hW⟩⟩ rfl hn hl.1 rfl (lv_room hr) hd hR.2.1) hA hP hD hS hl kk
/-- checkcast of an object of ours to its own class -/
theorem ca_cast (C : Cx0 own cc nL D ar X R j) (pc : Nat) {ix a kd : Nat} {CC : String} {T9 : u_T} {N9 : Nat} (hk : kd = 0 ∨ kd = 1 ∨ kd = 2 ∨ kd = 3 ∨ kd = 4 ∨ kd = 6) (hc : cls7[kd]? = some (CC, T9, N9)) (hw : Cond.classLink own ix CC ∈ gtbl) (ha : Is S a kd) (hd : decode cc pc = .ok (.checkcast ix, 3)) (kk : j (cW ar S) k n (pc + 3) lv (.ref a :: st)) : j (cW ar S) k n pc lv (.ref a :: st) := by
  obtain ⟨p, l, e, s, m, args, below, meth, c, A, Q, ⟨hx, hb, hml, hown, hts, hK, hA, hX, hXs⟩, rfl⟩ := C
  intro H locs ls hP hD hS hl
  obtain ⟨fs, he⟩ := cE_inr (ar := ar) hk ha.2
  obtain ⟨q, hq⟩ := cW_get ha.1 he
  exact va_castS hx hb hown (hts _ hw) (hK.1 kd _ hc).2 (va_recv hK hP hc hq) hd (kk H locs ls hP hD hS hl)
theorem ca_castA (C : Cx0 own cc nL D ar X R j) (pc : Nat) {ix a : Nat} (hw : Cond.classLink own ix "[Ljava/lang/Object;" ∈ gtbl) (ha : Is S a 10) (hd : decode cc pc = .ok (.checkcast ix, 3)) (kk : j (cW ar S) k n (pc + 3) lv (.ref a :: st)) : j (cW ar S) k n pc lv (.ref a :: st) := by
  obtain ⟨p, l, e, s, m, args, below, meth, c, A, Q, ⟨hx, hb, hml, hown, hts, hK, hA, hX, hXs⟩, rfl⟩ := C
  intro H locs ls hP hD hS hl
  obtain ⟨q, hq⟩ := cW_get ha.1 (cE_10 (ar := ar) ha.2)
  exact va_castA hx hb hown (hts _ hw) hP q hq (va_nmO (hK.2 4 _ rfl).2 rfl) hd (kk H locs ls hP hD hS hl)
theorem ca_getC (C : Cx0 own cc nL D ar (XC tg te mi) R j) (pc : Nat) {ix a : Nat} (hw : Cond.methodLink own ix ⟨"java/lang/Object", "getClass", "()Ljava/lang/Class;"⟩ ∈ gtbl) (ha : Is S a 10) (hf : 1 ≤ R.frames) (hlo : (st.map fun v => v.category).sum + 14 ≤ R.locals) (hd : decode cc pc = .ok (.invokevirtual ix, 3)) (kk : j (cW ar S) k n (pc + 3) lv (.ref mi :: st)) : j (cW ar S) k n pc lv (.ref a :: st) := by
  obtain ⟨p, l, e, s, m, args, below, meth, c, A, Q, ⟨hx, hb, hml, hown, hts, hK, hA, hX, hXs⟩, rfl⟩ := C
  intro H locs ls hP hD hS hl
  obtain ⟨q, hq⟩ := cW_get ha.1 (cE_10 (ar := ar) ha.2)
  have hcell := hP q _ hq
  exact va_getC hx hb (by rw [hml, hl.1]) hown (hts _ hw) (va_Dc.use hXs.2.2.2.2.2.2.2.2) (hts _ se_gc) (hts _ im_gc) (hts _ nat_gc) hXs.2.2.2.2.2.2.2.1 ⟨_, hcell, rfl, va_nmO (hK.2 4 _ rfl).2 rfl⟩ hf hlo hd (kk H locs ls hP hD hS hl)
theorem ca_ldcM (C : Cx0 own cc nL D ar (XC tg te mi) R j) (pc : Nat) {ix : Nat} {ws : va_W} (hw : Cond.classLink own ix "[Ljava/lang/Object;" ∈ gtbl) (hd : decode cc pc = .ok (.ldc ix, 2)) (kk : j ws k n (pc + 2) lv (.ref mi :: st)) : j ws k n pc lv st := by
  obtain ⟨p, l, e, s, m, args, below, meth, c, A, Q, ⟨hx, hb, hml, hown, hts, hK, hA, hX, hXs⟩, rfl⟩ := C
  intro H locs ls hP hD hS hl
  exact va_ldcM hx hb hown (hts _ hw) hXs.2.2.2.2.2.2.2.1 hd (kk H locs ls hP hD hS hl)
theorem r_acmp_eq (C : Cx0 own cc nL D ar X R j) (pc : Nat) {ws : va_W} {x y : Nat} {off : Int} (tgt : Nat) (hd : decode cc pc = .ok (.if_acmp .eq off, 3)) (ht : (pc : Int) + off = (tgt : Int)) (kt : x = y → j ws k n tgt lv st) (kf : ¬ x = y → j ws k n (pc + 3) lv st) : j ws k n pc lv (.ref y :: .ref x :: st) := by
  obtain ⟨p, l, e, s, m, args, below, meth, c, A, Q, ⟨hx, hb, hml, hown, hts, hK, hA, hX, hXs⟩, rfl⟩ := C
  intro H locs ls hP hD hS hl
  exact lv_acmp_eq (rx := some x) (ry := some y) hx hb hd ht (fun h => kt (Option.some.inj h) H locs ls hP hD hS hl) (fun h => kf (fun q => h (by rw [q])) H locs ls hP hD hS hl)
theorem r_acmp_ne (C : Cx0 own cc nL D ar X R j) (pc : Nat) {ws : va_W} {x y : Nat} {off : Int} (tgt : Nat) (hd : decode cc pc = .ok (.if_acmp .ne off, 3)) (ht : (pc : Int) + off = (tgt : Int)) (kt : ¬ x = y → j ws k n tgt lv st) (kf : x = y → j ws k n (pc + 3) lv st) : j ws k n pc lv (.ref y :: .ref x :: st) := by
  obtain ⟨p, l, e, s, m, args, below, meth, c, A, Q, ⟨hx, hb, hml, hown, hts, hK, hA, hX, hXs⟩, rfl⟩ := C
  intro H locs ls hP hD hS hl
  exact lv_acmp_ne (rx := some x) (ry := some y) hx hb hd ht (fun h => kt (fun q => h (by rw [q])) H locs ls hP hD hS hl) (fun h => kf (Option.some.inj h) H locs ls hP hD hS hl)
theorem ca_copy (C : Cx0 own cc nL D ar (XC tg te mi) R j) (pc u v z : Nat) {ix a a0 : Nat} {sp dp nn : Int32} (hw : Cond.methodLink own ix arraycopyName ∈ gtbl) (ha0 : Is S a0 10) (ha : Is S a 10) (e1 : sp = nI u) (e2 : dp = nI v) (e3 : nn = nI z) (h4 : u + z ≤ S.2.2.1 a0) (h5 : v + z ≤ S.2.2.1 a) (hN0 : S.2.2.1 a0 < 2 ^ 31) (hN : S.2.2.1 a < 2 ^ 31) (hel : ∀ i, i < z → ∀ y, S.2.2.2.2.2.2.2 a0 (u + i) = some y → El S y)
    (hf : 1 ≤ R.frames) (hlo : (st.map fun v => v.category).sum + (nativeFrameWords "java/lang/System" "arraycopy" 5 + 11) ≤ R.locals) (hd : decode cc pc = .ok (.invokestatic ix, 3)) (kk : j (cW ar (uB S a (va_cpy (S.2.2.2.2.2.2.2 a0) (S.2.2.2.2.2.2.2 a) u v z))) k n (pc + 3) lv st) : j (cW ar S) k n pc lv (.int nn :: .int dp :: .ref a :: .int sp :: .ref a0 :: st) := by
  obtain ⟨p, l, e, s, m, args, below, meth, c, A, Q, ⟨hx, hb, hml, hown, hts, hK, hA, hX, hXs⟩, rfl⟩ := C
  intro H locs ls hP hD hS hl
  subst e1; subst e2; subst e3
  have h0 := cE_10 (ar := ar) ha.2
  obtain ⟨q0, hq0⟩ := cW_get ha0.1 (cE_10 (ar := ar) ha0.2)
  obtain ⟨q, hq⟩ := cW_get ha.1 h0
  have cu : (nI u).toNatClampNeg = u := nI_clamp (by omega)
  have cv : (nI v).toNatClampNeg = v := nI_clamp (by omega)
  have cz : (nI z).toNatClampNeg = z := nI_clamp (by omega)
  refine va_copyM hx hb (by rw [hml, hl.1]) hown (hts _ hw) (hts _ nat_ac) (hts _ st_ac) (hts _ ini_System) hK hP hD hS q0 q 4 4 hq0 hq rfl rfl (nI_pos (by omega)) (nI_pos (by omega)) (nI_pos (by omega)) (by rw [cu, cz]; exact h4) (by rw [cv, cz]; exact h5) (fun i hi y hy => ?_) hf hlo hd (fun H locs hP hD1 hS => ?_)
  · rw [cz] at hi
    rw [cu] at hy
    exact (hel i hi y hy).any hK hP hXs
  · rw [cu, cv, cz, cW_set (S' := uB S a (va_cpy (S.2.2.2.2.2.2.2 a0) (S.2.2.2.2.2.2.2 a) u v z)) hD ha.1 hq h0 rfl ((cE_10 (S := uB S a _) ha.2).trans (by simp [va_up_self])) (fun b hb => cE_oB hb)] at hP hD1
    exact kk H locs ls hP hD1 hS hl
theorem r_mmax (C : Cx0 own cc nL D ar X R j) (pc : Nat) {ws : va_W} {ix : Nat} {x y : Int32} (hw : Cond.methodLink own ix Lib.Math.max.name ∈ gtbl) (hf : 1 ≤ R.frames) (hlo : (st.map fun v => v.category).sum + 13 ≤ R.locals) (hc : k ≤ R.cells) (hs : n ≤ R.slots) (hd : decode cc pc = .ok (.invokestatic ix, 3)) (kk : j ws k n (pc + 3) lv (.int (if x < y then y else x) :: st)) : j ws k n pc lv (.int y :: .int x :: st) := by
  obtain ⟨p, l, e, s, m, args, below, meth, c, A, Q, ⟨hx, hb, hml, hown, hts, hK, hA, hX, hXs⟩, rfl⟩ := C
  intro H locs ls hP hD hS hl
  exact va_mmax hx hb (by rw [hml, hl.1]) hown (hts _ hw) (hts _ st_max) (hts _ ini_Math) (hts _ co_max) hf hlo hc hs hd (kk H locs ls hP hD hS hl)
theorem r_mmin (C : Cx0 own cc nL D ar X R j) (pc : Nat) {ws : va_W} {ix : Nat} {x y : Int32} (hw : Cond.methodLink own ix Lib.Math.min.name ∈ gtbl) (hf : 1 ≤ R.frames) (hlo : (st.map fun v => v.category).sum + 13 ≤ R.locals) (hc : k ≤ R.cells) (hs : n ≤ R.slots) (hd : decode cc pc = .ok (.invokestatic ix, 3)) (kk : j ws k n (pc + 3) lv (.int (if y < x then y else x) :: st)) : j ws k n pc lv (.int y :: .int x :: st) := by
  obtain ⟨p, l, e, s, m, args, below, meth, c, A, Q, ⟨hx, hb, hml, hown, hts, hK, hA, hX, hXs⟩, rfl⟩ := C
  intro H locs ls hP hD hS hl
  exact va_mmin hx hb (by rw [hml, hl.1]) hown (hts _ hw) (hts _ st_min) (hts _ ini_Math) (hts _ co_min) hf hlo hc hs hd (kk H locs ls hP hD hS hl)
theorem r_ldcw (C : Cx0 own cc nL D ar X R j) (pc : Nat) {ws : va_W} {ix : Nat} {v : Int32} (hw : Cond.constant own ix v ∈ gtbl) (hd : decode cc pc = .ok (.ldc_w ix, 3)) (kk : j ws k n (pc + 3) lv (.int v :: st)) : j ws k n pc lv st := by
  obtain ⟨p, l, e, s, m, args, below, meth, c, A, Q, ⟨hx, hb, hml, hown, hts, hK, hA, hX, hXs⟩, rfl⟩ := C
  intro H locs ls hP hD hS hl
  exact lv_ldcw hx hb hown (hts _ hw) hd (kk H locs ls hP hD hS hl)
theorem ca_new0 (C : Cx0 own cc nL D ar X R j) (pc : Nat) {ix : Nat} (hw : Cond.classLink own ix RX0 ∈ gtbl) (hc : k + 1 ≤ R.cells) (hs : n + 9 ≤ R.slots) (hd : decode cc pc = .ok (.new ix, 3)) (kk : ∀ q, q ∉ S.1 → j (cW ar (nO S q 0)) (k + 1) (n + 9) (pc + 3) lv (.ref q :: st)) : j (cW ar S) k n pc lv st := by
  obtain ⟨p, l, e, s, m, args, below, meth, c, A, Q, ⟨hx, hb, hml, hown, hts, hK, hA, hX, hXs⟩, rfl⟩ := C
  intro H locs ls hP hD hS hl
  refine va_new (ci := 0) (fs := [.int 0, .int 0, .int 0, .int 0, .int 0, .int 0, .int 0, .int 0, .int 0]) (C := RX0) (T := TX0) (N := 9) hx hb hts gX0 tyX0 tyX0_ok hown (hts _ hw) (hts _ in_X0) (hts _ ini_X0) hK hP hD hS hA rfl (fun i hi => by rcases (show i = 0 ∨ i = 1 ∨ i = 2 ∨ i = 3 ∨ i = 4 ∨ i = 5 ∨ i = 6 ∨ i = 7 ∨ i = 8 by omega) with rfl | rfl | rfl | rfl | rfl | rfl | rfl | rfl | rfl <;> rfl) hc hs hd (fun q H1 hP1 hD1 hS1 => ?_)
  have hq := cW_fresh hD1
  rw [cW_push (S' := nO S q 0) hq rfl ((cE_0 (va_up_self _ _ _)).trans (by simp [zI, zR, va_up_self, va_rf])) (fun b hb => cE_oO hb)] at hP1 hD1
  exact kk q hq H1 locs ls hP1 hD1 hS1 hl
theorem ca_new1 (C : Cx0 own cc nL D ar X R j) (pc : Nat) {ix : Nat} (hw : Cond.classLink own ix RX1 ∈ gtbl) (hc : k + 1 ≤ R.cells) (hs : n + 4 ≤ R.slots) (hd : decode cc pc = .ok (.new ix, 3)) (kk : ∀ q, q ∉ S.1 → j (cW ar (nO S q 1)) (k + 1) (n + 4) (pc + 3) lv (.ref q :: st)) : j (cW ar S) k n pc lv st := by
  obtain ⟨p, l, e, s, m, args, below, meth, c, A, Q, ⟨hx, hb, hml, hown, hts, hK, hA, hX, hXs⟩, rfl⟩ := C
  intro H locs ls hP hD hS hl
  refine va_new (ci := 1) (fs := [.int 0, .int 0, .int 0, .int 0]) (C := RX1) (T := TX1) (N := 4) hx hb hts gX1 tyX1 tyX1_ok hown (hts _ hw) (hts _ in_X1) (hts _ ini_X1) hK hP hD hS hA rfl (fun i hi => by rcases (show i = 0 ∨ i = 1 ∨ i = 2 ∨ i = 3 by omega) with rfl | rfl | rfl | rfl <;> rfl) hc hs hd (fun q H1 hP1 hD1 hS1 => ?_)
  have hq := cW_fresh hD1
  rw [cW_push (S' := nO S q 1) hq rfl ((cE_1 (va_up_self _ _ _)).trans (by simp [zI, zR, va_up_self, va_rf])) (fun b hb => cE_oO hb)] at hP1 hD1
  exact kk q hq H1 locs ls hP1 hD1 hS1 hl
theorem ca_new2 (C : Cx0 own cc nL D ar X R j) (pc : Nat) {ix : Nat} (hw : Cond.classLink own ix RX2 ∈ gtbl) (hc : k + 1 ≤ R.cells) (hs : n + 9 ≤ R.slots) (hd : decode cc pc = .ok (.new ix, 3)) (kk : ∀ q, q ∉ S.1 → j (cW ar (nO S q 2)) (k + 1) (n + 9) (pc + 3) lv (.ref q :: st)) : j (cW ar S) k n pc lv st := by
  obtain ⟨p, l, e, s, m, args, below, meth, c, A, Q, ⟨hx, hb, hml, hown, hts, hK, hA, hX, hXs⟩, rfl⟩ := C
  intro H locs ls hP hD hS hl
  refine va_new (ci := 2) (fs := [.int 0, .int 0, .int 0, .int 0, .int 0, .int 0, .int 0, .int 0, .int 0]) (C := RX2) (T := TX2) (N := 9) hx hb hts gX2 tyX2 tyX2_ok hown (hts _ hw) (hts _ in_X2) (hts _ ini_X2) hK hP hD hS hA rfl (fun i hi => by rcases (show i = 0 ∨ i = 1 ∨ i = 2 ∨ i = 3 ∨ i = 4 ∨ i = 5 ∨ i = 6 ∨ i = 7 ∨ i = 8 by omega) with rfl | rfl | rfl | rfl | rfl | rfl | rfl | rfl | rfl <;> rfl) hc hs hd (fun q H1 hP1 hD1 hS1 => ?_)
  have hq := cW_fresh hD1
  rw [cW_push (S' := nO S q 2) hq rfl ((cE_2 (va_up_self _ _ _)).trans (by simp [zI, zR, va_up_self, va_rf])) (fun b hb => cE_oO hb)] at hP1 hD1
  exact kk q hq H1 locs ls hP1 hD1 hS1 hl
theorem ca_new3 (C : Cx0 own cc nL D ar X R j) (pc : Nat) {ix : Nat} (hw : Cond.classLink own ix RX3 ∈ gtbl) (hc : k + 1 ≤ R.cells) (hs : n + 5 ≤ R.slots) (hd : decode cc pc = .ok (.new ix, 3)) (kk : ∀ q, q ∉ S.1 → j (cW ar (nO S q 3)) (k + 1) (n + 5) (pc + 3) lv (.ref q :: st)) : j (cW ar S) k n pc lv st := by
  obtain ⟨p, l, e, s, m, args, below, meth, c, A, Q, ⟨hx, hb, hml, hown, hts, hK, hA, hX, hXs⟩, rfl⟩ := C
  intro H locs ls hP hD hS hl
  refine va_new (ci := 3) (fs := [.int 0, .int 0, .int 0, .int 0, .null]) (C := RX3) (T := TX3) (N := 5) hx hb hts gX3 tyX3 tyX3_ok hown (hts _ hw) (hts _ in_X3) (hts _ ini_X3) hK hP hD hS hA rfl (fun i hi => by rcases (show i = 0 ∨ i = 1 ∨ i = 2 ∨ i = 3 ∨ i = 4 by omega) with rfl | rfl | rfl | rfl | rfl <;> rfl) hc hs hd (fun q H1 hP1 hD1 hS1 => ?_)
  have hq := cW_fresh hD1
  rw [cW_push (S' := nO S q 3) hq rfl ((cE_3 (va_up_self _ _ _)).trans (by simp [zI, zR, va_up_self, va_rf])) (fun b hb => cE_oO hb)] at hP1 hD1
  exact kk q hq H1 locs ls hP1 hD1 hS1 hl
theorem ca_new4 (C : Cx0 own cc nL D ar X R j) (pc : Nat) {ix : Nat} (hw : Cond.classLink own ix RX4 ∈ gtbl) (hc : k + 1 ≤ R.cells) (hs : n + 11 ≤ R.slots) (hd : decode cc pc = .ok (.new ix, 3)) (kk : ∀ q, q ∉ S.1 → j (cW ar (nO S q 4)) (k + 1) (n + 11) (pc + 3) lv (.ref q :: st)) : j (cW ar S) k n pc lv st := by
  obtain ⟨p, l, e, s, m, args, below, meth, c, A, Q, ⟨hx, hb, hml, hown, hts, hK, hA, hX, hXs⟩, rfl⟩ := C
  intro H locs ls hP hD hS hl
  refine va_new (ci := 4) (fs := [.null, .null, .null, .null, .null, .null, .null, .int 0, .int 0, .int 0, .long 0]) (C := RX4) (T := TX4) (N := 11) hx hb hts gX4 tyX4 tyX4_ok hown (hts _ hw) (hts _ in_X4) (hts _ ini_X4) hK hP hD hS hA rfl (fun i hi => by rcases (show i = 0 ∨ i = 1 ∨ i = 2 ∨ i = 3 ∨ i = 4 ∨ i = 5 ∨ i = 6 ∨ i = 7 ∨ i = 8 ∨ i = 9 ∨ i = 10 by omega) with rfl | rfl | rfl | rfl | rfl | rfl | rfl | rfl | rfl | rfl | rfl <;> rfl) hc hs hd (fun q H1 hP1 hD1 hS1 => ?_)
  have hq := cW_fresh hD1
  rw [cW_push (S' := nO S q 4) hq rfl ((cE_4 (va_up_self _ _ _)).trans (by simp [zI, zR, va_up_self, va_rf])) (fun b hb => cE_oO hb)] at hP1 hD1
  exact kk q hq H1 locs ls hP1 hD1 hS1 hl
theorem ca_new6 (C : Cx0 own cc nL D ar X R j) (pc : Nat) {ix : Nat} (hw : Cond.classLink own ix RJx4a65c ∈ gtbl) (hc : k + 1 ≤ R.cells) (hs : n + 3 ≤ R.slots) (hd : decode cc pc = .ok (.new ix, 3)) (kk : ∀ q, q ∉ S.1 → j (cW ar (nO S q 6)) (k + 1) (n + 3) (pc + 3) lv (.ref q :: st)) : j (cW ar S) k n pc lv st := by
  obtain ⟨p, l, e, s, m, args, below, meth, c, A, Q, ⟨hx, hb, hml, hown, hts, hK, hA, hX, hXs⟩, rfl⟩ := C
  intro H locs ls hP hD hS hl
  refine va_new (ci := 6) (fs := [.int 0, .null, .int 0]) (C := RJx4a65c) (T := TJx4a65c) (N := 3) hx hb hts gJx4a65c tyJx4a65c tyJx4a65c_ok hown (hts _ hw) (hts _ in_Jx4a65c) (hts _ ini_Jx4a65c) hK hP hD hS hA rfl (fun i hi => by rcases (show i = 0 ∨ i = 1 ∨ i = 2 by omega) with rfl | rfl | rfl <;> rfl) hc hs hd (fun q H1 hP1 hD1 hS1 => ?_)
  have hq := cW_fresh hD1
  rw [cW_push (S' := nO S q 6) hq rfl ((cE_6 (va_up_self _ _ _)).trans (by simp [zI, zR, va_up_self, va_rf])) (fun b hb => cE_oO hb)] at hP1 hD1
  exact kk q hq H1 locs ls hP1 hD1 hS1 hl
end CC
