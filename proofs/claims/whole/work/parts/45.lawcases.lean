/-! the law's cases -/
/-- what comes behind a case -/
def LK (j : jT) (te : Nat) (a : Nat → Nat) (ar : Nat → ClassId) (h1 : Nat) (ad : Nat → Nat) (b c k n : Nat) : Prop := ∀ (S : CS) (v : Nat → Nat) (w : Nat → Nat → Nat) (E Q W P O now : Nat) (M : Nat → Nat → Int32) (T : Int64), CI te a v w E Q W P O S M T → CapOK v → Iv M E now → E ≤ c + 1 → now ≤ 40 * (c + 1) → j (cW ar S ++ mW ar h1 ad M T) (k + 360) (n + 7560) 777 [(0, .ref b), (1, .ref (a 0)), (2, .ref h1), (3, .int (nI (6 * c)))] []
theorem Iv.tr6 {M : Nat → Nat → Int32} {E now : Nat} (h : Iv M E now) : TrOK M E := fun p hp => by
  obtain ⟨t, h1, h2, h3⟩ := h.1.1.2.2.2.1 p hp
  exact ⟨t, by omega, h2, h3⟩
theorem lcmp_0 (T : Int64) : lg_cmp T T = 0 := by
  unfold lg_cmp
  simp
section C45
variable {D : va_G} {ar : Nat → ClassId} {tg te mi : Nat} {b L : Nat} {xs : Nat → Int32} {j : jT} {S : CS} {a v : Nat → Nat} {w : Nat → Nat → Nat} {E Q W P O now : Nat} {M : Nat → Nat → Int32} {T : Int64} {h1 : Nat} {ad : Nat → Nat} {c k n : Nat}
set_option maxRecDepth 100000 in
theorem law_0 (CL : CxL D ar (XC tg te mi) b L xs j) (hL : L ≤ 3072) (hc : 6 * c + 6 ≤ L) (ci : CI te a v w E Q W P O S M T) (cp : CapOK v) (iv : Iv M E now) (hE : E ≤ c) (hn : now ≤ 40 * c) (hk : k + 360 ≤ 600000) (hs : n + 7560 ≤ 7302250) (K : LK j te a ar h1 ad b c k n) : j (cW ar S ++ mW ar h1 ad M T) k n 128 [(0, .ref b), (1, .ref (a 0)), (2, .ref h1), (3, .int (nI (6 * c)))] [] := by
  have C0 := CL.to
  have hE6 : E < 600 := by omega
  have hE0 : E ≤ 600 := by omega
  have hnb : now + 40 ≤ 30000 := by omega
  have hO6 := ci.2.2.2.2.1.1.1
  have hP6 := ci.2.2.2.1.1.1
  have oro : OrOK M O := by
    have h9 := iv.2.2.2.1
    rw [ci.2.2.2.2.1.1.2, nI_clamp (by omega)] at h9
    exact h9
  have pko : PkOK M P := by
    have h9 := iv.1.2.2.2.2.1
    rw [ci.2.2.2.1.1.2, nI_clamp (by omega)] at h9
    exact h9
  refine r_aload_n C0 128 1 dL_law_128 rfl rfl ?_
  refine r_aload_n C0 129 0 dL_law_129 rfl rfl ?_
  refine r_iload_n C0 130 3 dL_law_130 rfl rfl ?_
  refine r_iconst C0 131 1 dL_law_131 (by decide) ?_
  refine r_iadd C0 132 dL_law_132 ?_
  refine r_sld CL 133 (6 * c + 1) (nI_add (6 * c) 1) (by omega) (by omega) dL_law_133 ?_
  refine r_aload_n C0 134 0 dL_law_134 rfl rfl ?_
  refine r_iload_n C0 135 3 dL_law_135 rfl rfl ?_
  refine r_iconst C0 136 2 dL_law_136 (by decide) ?_
  refine r_iadd C0 137 dL_law_137 ?_
  refine r_sld CL 138 (6 * c + 2) (nI_add (6 * c) 2) (by omega) (by omega) dL_law_138 ?_
  refine r_aload_n C0 139 0 dL_law_139 rfl rfl ?_
  refine r_iload_n C0 140 3 dL_law_140 rfl rfl ?_
  refine r_iconst C0 141 3 dL_law_141 (by decide) ?_
  refine r_iadd C0 142 dL_law_142 ?_
  refine r_sld CL 143 (6 * c + 3) (nI_add (6 * c) 3) (by omega) (by omega) dL_law_143 ?_
  refine r_aload_n C0 144 0 dL_law_144 rfl rfl ?_
  refine r_iload_n C0 145 3 dL_law_145 rfl rfl ?_
  refine r_iconst C0 146 4 dL_law_146 (by decide) ?_
  refine r_iadd C0 147 dL_law_147 ?_
  refine r_sld CL 148 (6 * c + 4) (nI_add (6 * c) 4) (by omega) (by omega) dL_law_148 ?_
  refine r_aload_n C0 149 0 dL_law_149 rfl rfl ?_
  refine r_iload_n C0 150 3 dL_law_150 rfl rfl ?_
  refine r_iconst C0 151 5 dL_law_151 (by decide) ?_
  refine r_iadd C0 152 dL_law_152 ?_
  refine r_sld CL 153 (6 * c + 5) (nI_add (6 * c) 5) (by omega) (by omega) dL_law_153 ?_
  refine l_callC (As := [.int _, .int _, .int _, .int _, .int _]) C0 154 5 (k_X4_egg ci cp iv.1.1 hE6 iv.2.2.2.2.1 (iv.2.2.2.2.2 E (Nat.le_refl _)) iv.2.2.1 _ _ _ _ _) (rm_X4_egg (Nat.le_of_ble_eq_true rfl) (Nat.le_of_ble_eq_true rfl) (by show _ ≤ 600000; omega) (by show _ ≤ 7302250; omega)) mlL_13 im_X4_egg se_X4_egg ci.1.1 rfl (Nat.le_of_ble_eq_true rfl) dL_law_154 ?_
  rintro _ _ ⟨rfl, S2, v2, w2, E2, Q2, rfl, c2, cp2, e0, e1⟩
  refine r_aload_n C0 157 2 dL_law_157 rfl rfl ?_
  refine r_aload_n C0 158 0 dL_law_158 rfl rfl ?_
  refine r_iload_n C0 159 3 dL_law_159 rfl rfl ?_
  refine r_iconst C0 160 1 dL_law_160 (by decide) ?_
  refine r_iadd C0 161 dL_law_161 ?_
  refine r_sld CL 162 (6 * c + 1) (nI_add (6 * c) 1) (by omega) (by omega) dL_law_162 ?_
  refine r_aload_n C0 163 0 dL_law_163 rfl rfl ?_
  refine r_iload_n C0 164 3 dL_law_164 rfl rfl ?_
  refine r_iconst C0 165 2 dL_law_165 (by decide) ?_
  refine r_iadd C0 166 dL_law_166 ?_
  refine r_sld CL 167 (6 * c + 2) (nI_add (6 * c) 2) (by omega) (by omega) dL_law_167 ?_
  refine r_aload_n C0 168 0 dL_law_168 rfl rfl ?_
  refine r_iload_n C0 169 3 dL_law_169 rfl rfl ?_
  refine r_iconst C0 170 3 dL_law_170 (by decide) ?_
  refine r_iadd C0 171 dL_law_171 ?_
  refine r_sld CL 172 (6 * c + 3) (nI_add (6 * c) 3) (by omega) (by omega) dL_law_172 ?_
  refine r_aload_n C0 173 0 dL_law_173 rfl rfl ?_
  refine r_iload_n C0 174 3 dL_law_174 rfl rfl ?_
  refine r_iconst C0 175 4 dL_law_175 (by decide) ?_
  refine r_iadd C0 176 dL_law_176 ?_
  refine r_sld CL 177 (6 * c + 4) (nI_add (6 * c) 4) (by omega) (by omega) dL_law_177 ?_
  refine r_aload_n C0 178 0 dL_law_178 rfl rfl ?_
  refine r_iload_n C0 179 3 dL_law_179 rfl rfl ?_
  refine r_iconst C0 180 5 dL_law_180 (by decide) ?_
  refine r_iadd C0 181 dL_law_181 ?_
  refine r_sld CL 182 (6 * c + 5) (nI_add (6 * c) 5) (by omega) (by omega) dL_law_182 ?_
  refine l_callM (As := [.int _, .int _, .int _, .int _, .int _]) C0 183 5 (k5_egg XC_ok iv.2.2.2.2.1 hE6 ci.2.1.1.2 ci.2.1.1.1 _ _ _ _ _) (rm5_egg (Nat.le_of_ble_eq_true rfl) (Nat.le_of_ble_eq_true rfl) (by show _ ≤ 600000; omega) (by show _ ≤ 7302250; omega)) mlL_17 im5_egg se5_egg rfl (Nat.le_of_ble_eq_true rfl) dL_law_183 ?_
  rintro _ _ ⟨rfl, rfl⟩
  refine r_icmp_eq C0 186 777 dL_law_186 (by decide) (fun c_186 => ?_) (fun c_186 => ?_)
  · exact r_widen C0 (k + 360) (n + 7560) (by omega) (by omega) (K S2 v2 w2 E2 Q2 W P O now _ T c2 cp2 (iv.egg hE6 ci.2.1.1.2 ci.2.1.1.1 _ _ _ _ _ e1 e0) (by omega) (by omega))
  · exact absurd rfl c_186
set_option maxRecDepth 100000 in
theorem law_1 (CL : CxL D ar (XC tg te mi) b L xs j) (hL : L ≤ 3072) (hc : 6 * c + 6 ≤ L) (ci : CI te a v w E Q W P O S M T) (cp : CapOK v) (iv : Iv M E now) (hE : E ≤ c) (hn : now ≤ 40 * c) (hk : k + 360 ≤ 600000) (hs : n + 7560 ≤ 7302250) (K : LK j te a ar h1 ad b c k n) : j (cW ar S ++ mW ar h1 ad M T) k n 191 [(0, .ref b), (1, .ref (a 0)), (2, .ref h1), (3, .int (nI (6 * c)))] [] := by
  have C0 := CL.to
  have hE6 : E < 600 := by omega
  have hE0 : E ≤ 600 := by omega
  have hnb : now + 40 ≤ 30000 := by omega
  have hO6 := ci.2.2.2.2.1.1.1
  have hP6 := ci.2.2.2.1.1.1
  have oro : OrOK M O := by
    have h9 := iv.2.2.2.1
    rw [ci.2.2.2.2.1.1.2, nI_clamp (by omega)] at h9
    exact h9
  have pko : PkOK M P := by
    have h9 := iv.1.2.2.2.2.1
    rw [ci.2.2.2.1.1.2, nI_clamp (by omega)] at h9
    exact h9
  refine r_aload_n C0 191 1 dL_law_191 rfl rfl ?_
  refine r_aload_n C0 192 0 dL_law_192 rfl rfl ?_
  refine r_iload_n C0 193 3 dL_law_193 rfl rfl ?_
  refine r_iconst C0 194 1 dL_law_194 (by decide) ?_
  refine r_iadd C0 195 dL_law_195 ?_
  refine r_sld CL 196 (6 * c + 1) (nI_add (6 * c) 1) (by omega) (by omega) dL_law_196 ?_
  refine l_callC (As := [.int _]) C0 197 1 (k_X4_tick ci cp iv.1 hE0 iv.2.1 hnb _) (rm_X4_tick (Nat.le_of_ble_eq_true rfl) (Nat.le_of_ble_eq_true rfl) (by show _ ≤ 600000; omega) (by show _ ≤ 7302250; omega)) mlL_18 im_X4_tick se_X4_tick ci.1.1 rfl (Nat.le_of_ble_eq_true rfl) dL_law_197 ?_
  rintro _ _ ⟨rfl, S2, v2, w2, Q2, W2, P2, rfl, c2, cp2⟩
  refine r_aload_n C0 200 2 dL_law_200 rfl rfl ?_
  refine r_aload_n C0 201 0 dL_law_201 rfl rfl ?_
  refine r_iload_n C0 202 3 dL_law_202 rfl rfl ?_
  refine r_iconst C0 203 1 dL_law_203 (by decide) ?_
  refine r_iadd C0 204 dL_law_204 ?_
  refine r_sld CL 205 (6 * c + 1) (nI_add (6 * c) 1) (by omega) (by omega) dL_law_205 ?_
  refine l_callM (As := [.int _]) C0 206 1 (k5_tick XC_ok hE0 iv.1.1 _) (rm5_tick (Nat.le_of_ble_eq_true rfl) (Nat.le_of_ble_eq_true rfl) (by show _ ≤ 600000; omega) (by show _ ≤ 7302250; omega)) mlL_22 im5_tick se5_tick rfl (Nat.le_of_ble_eq_true rfl) dL_law_206 ?_
  rintro _ _ ⟨rfl, rfl⟩
  refine r_icmp_eq C0 209 777 dL_law_209 (by decide) (fun c_209 => ?_) (fun c_209 => ?_)
  · obtain ⟨now2, hn2, iv2⟩ := iv.tick (T := T) hE0 (xs (6 * c + 1)) hnb
    exact r_widen C0 (k + 360) (n + 7560) (by omega) (by omega) (K S2 v2 w2 E Q2 W2 P2 O now2 _ _ c2 cp2 iv2 (by omega) (by omega))
  · exact absurd rfl c_209
set_option maxRecDepth 100000 in
theorem law_2 (CL : CxL D ar (XC tg te mi) b L xs j) (hL : L ≤ 3072) (hc : 6 * c + 6 ≤ L) (ci : CI te a v w E Q W P O S M T) (cp : CapOK v) (iv : Iv M E now) (hE : E ≤ c) (hn : now ≤ 40 * c) (hk : k + 360 ≤ 600000) (hs : n + 7560 ≤ 7302250) (K : LK j te a ar h1 ad b c k n) : j (cW ar S ++ mW ar h1 ad M T) k n 214 [(0, .ref b), (1, .ref (a 0)), (2, .ref h1), (3, .int (nI (6 * c)))] [] := by
  have C0 := CL.to
  have hE6 : E < 600 := by omega
  have hE0 : E ≤ 600 := by omega
  have hnb : now + 40 ≤ 30000 := by omega
  have hO6 := ci.2.2.2.2.1.1.1
  have hP6 := ci.2.2.2.1.1.1
  have oro : OrOK M O := by
    have h9 := iv.2.2.2.1
    rw [ci.2.2.2.2.1.1.2, nI_clamp (by omega)] at h9
    exact h9
  have pko : PkOK M P := by
    have h9 := iv.1.2.2.2.2.1
    rw [ci.2.2.2.1.1.2, nI_clamp (by omega)] at h9
    exact h9
  refine r_aload_n C0 214 1 dL_law_214 rfl rfl ?_
  refine r_aload_n C0 215 0 dL_law_215 rfl rfl ?_
  refine r_iload_n C0 216 3 dL_law_216 rfl rfl ?_
  refine r_iconst C0 217 1 dL_law_217 (by decide) ?_
  refine r_iadd C0 218 dL_law_218 ?_
  refine r_sld CL 219 (6 * c + 1) (nI_add (6 * c) 1) (by omega) (by omega) dL_law_219 ?_
  refine l_callC (As := [.int _]) C0 220 1 (k_X4_drift ci _) (rm_X4_drift (Nat.le_of_ble_eq_true rfl) (Nat.le_of_ble_eq_true rfl) (by show _ ≤ 600000; omega) (by show _ ≤ 7302250; omega)) mlL_23 im_X4_drift se_X4_drift ci.1.1 rfl (Nat.le_of_ble_eq_true rfl) dL_law_220 ?_
  rintro _ _ ⟨rfl, S2, rfl, c2⟩
  refine r_aload_n C0 223 2 dL_law_223 rfl rfl ?_
  refine r_aload_n C0 224 0 dL_law_224 rfl rfl ?_
  refine r_iload_n C0 225 3 dL_law_225 rfl rfl ?_
  refine r_iconst C0 226 1 dL_law_226 (by decide) ?_
  refine r_iadd C0 227 dL_law_227 ?_
  refine r_sld CL 228 (6 * c + 1) (nI_add (6 * c) 1) (by omega) (by omega) dL_law_228 ?_
  refine l_callM (As := [.int _]) C0 229 1 (k5_drift XC_ok _) (rm5_drift (Nat.le_of_ble_eq_true rfl) (Nat.le_of_ble_eq_true rfl) (by show _ ≤ 600000; omega) (by show _ ≤ 7302250; omega)) mlL_26 im5_drift se5_drift rfl (Nat.le_of_ble_eq_true rfl) dL_law_229 ?_
  rintro _ _ ⟨rfl, rfl⟩
  refine r_icmp_eq C0 232 777 dL_law_232 (by decide) (fun c_232 => ?_) (fun c_232 => ?_)
  · exact r_widen C0 (k + 360) (n + 7560) (by omega) (by omega) (K S2 v w E Q W P O now _ T c2 cp (iv.drift _) (by omega) (by omega))
  · exact absurd rfl c_232
set_option maxRecDepth 100000 in
theorem law_3 (CL : CxL D ar (XC tg te mi) b L xs j) (hL : L ≤ 3072) (hc : 6 * c + 6 ≤ L) (ci : CI te a v w E Q W P O S M T) (cp : CapOK v) (iv : Iv M E now) (hE : E ≤ c) (hn : now ≤ 40 * c) (hk : k + 360 ≤ 600000) (hs : n + 7560 ≤ 7302250) (K : LK j te a ar h1 ad b c k n) : j (cW ar S ++ mW ar h1 ad M T) k n 237 [(0, .ref b), (1, .ref (a 0)), (2, .ref h1), (3, .int (nI (6 * c)))] [] := by
  have C0 := CL.to
  have hE6 : E < 600 := by omega
  have hE0 : E ≤ 600 := by omega
  have hnb : now + 40 ≤ 30000 := by omega
  have hO6 := ci.2.2.2.2.1.1.1
  have hP6 := ci.2.2.2.1.1.1
  have oro : OrOK M O := by
    have h9 := iv.2.2.2.1
    rw [ci.2.2.2.2.1.1.2, nI_clamp (by omega)] at h9
    exact h9
  have pko : PkOK M P := by
    have h9 := iv.1.2.2.2.2.1
    rw [ci.2.2.2.1.1.2, nI_clamp (by omega)] at h9
    exact h9
  refine r_aload_n C0 237 1 dL_law_237 rfl rfl ?_
  refine r_aload_n C0 238 0 dL_law_238 rfl rfl ?_
  refine r_iload_n C0 239 3 dL_law_239 rfl rfl ?_
  refine r_iconst C0 240 1 dL_law_240 (by decide) ?_
  refine r_iadd C0 241 dL_law_241 ?_
  refine r_sld CL 242 (6 * c + 1) (nI_add (6 * c) 1) (by omega) (by omega) dL_law_242 ?_
  refine r_aload_n C0 243 0 dL_law_243 rfl rfl ?_
  refine r_iload_n C0 244 3 dL_law_244 rfl rfl ?_
  refine r_iconst C0 245 2 dL_law_245 (by decide) ?_
  refine r_iadd C0 246 dL_law_246 ?_
  refine r_sld CL 247 (6 * c + 2) (nI_add (6 * c) 2) (by omega) (by omega) dL_law_247 ?_
  refine l_callC (As := [.int _, .int _]) C0 248 2 (k_X4_grade ci _ _) (rm_X4_grade (Nat.le_of_ble_eq_true rfl) (Nat.le_of_ble_eq_true rfl) (by show _ ≤ 600000; omega) (by show _ ≤ 7302250; omega)) mlL_27 im_X4_grade se_X4_grade ci.1.1 rfl (Nat.le_of_ble_eq_true rfl) dL_law_248 ?_
  rintro _ _ ⟨rfl, S2, rfl, c2⟩
  refine r_aload_n C0 251 2 dL_law_251 rfl rfl ?_
  refine r_aload_n C0 252 0 dL_law_252 rfl rfl ?_
  refine r_iload_n C0 253 3 dL_law_253 rfl rfl ?_
  refine r_iconst C0 254 1 dL_law_254 (by decide) ?_
  refine r_iadd C0 255 dL_law_255 ?_
  refine r_sld CL 256 (6 * c + 1) (nI_add (6 * c) 1) (by omega) (by omega) dL_law_256 ?_
  refine r_aload_n C0 257 0 dL_law_257 rfl rfl ?_
  refine r_iload_n C0 258 3 dL_law_258 rfl rfl ?_
  refine r_iconst C0 259 2 dL_law_259 (by decide) ?_
  refine r_iadd C0 260 dL_law_260 ?_
  refine r_sld CL 261 (6 * c + 2) (nI_add (6 * c) 2) (by omega) (by omega) dL_law_261 ?_
  refine l_callM (As := [.int _, .int _]) C0 262 2 (k5_grade XC_ok _ _) (rm5_grade (Nat.le_of_ble_eq_true rfl) (Nat.le_of_ble_eq_true rfl) (by show _ ≤ 600000; omega) (by show _ ≤ 7302250; omega)) mlL_31 im5_grade se5_grade rfl (Nat.le_of_ble_eq_true rfl) dL_law_262 ?_
  rintro _ _ ⟨rfl, rfl⟩
  refine r_icmp_eq C0 265 777 dL_law_265 (by decide) (fun c_265 => ?_) (fun c_265 => ?_)
  · exact r_widen C0 (k + 360) (n + 7560) (by omega) (by omega) (K S2 v w E Q W P O now _ T c2 cp (iv.grade _ _) (by omega) (by omega))
  · exact absurd rfl c_265
set_option maxRecDepth 100000 in
theorem law_4 (CL : CxL D ar (XC tg te mi) b L xs j) (hL : L ≤ 3072) (hc : 6 * c + 6 ≤ L) (ci : CI te a v w E Q W P O S M T) (cp : CapOK v) (iv : Iv M E now) (hE : E ≤ c) (hn : now ≤ 40 * c) (hk : k + 360 ≤ 600000) (hs : n + 7560 ≤ 7302250) (K : LK j te a ar h1 ad b c k n) : j (cW ar S ++ mW ar h1 ad M T) k n 270 [(0, .ref b), (1, .ref (a 0)), (2, .ref h1), (3, .int (nI (6 * c)))] [] := by
  have C0 := CL.to
  have hE6 : E < 600 := by omega
  have hE0 : E ≤ 600 := by omega
  have hnb : now + 40 ≤ 30000 := by omega
  have hO6 := ci.2.2.2.2.1.1.1
  have hP6 := ci.2.2.2.1.1.1
  have oro : OrOK M O := by
    have h9 := iv.2.2.2.1
    rw [ci.2.2.2.2.1.1.2, nI_clamp (by omega)] at h9
    exact h9
  have pko : PkOK M P := by
    have h9 := iv.1.2.2.2.2.1
    rw [ci.2.2.2.1.1.2, nI_clamp (by omega)] at h9
    exact h9
  refine r_aload_n C0 270 1 dL_law_270 rfl rfl ?_
  refine r_aload_n C0 271 0 dL_law_271 rfl rfl ?_
  refine r_iload_n C0 272 3 dL_law_272 rfl rfl ?_
  refine r_iconst C0 273 1 dL_law_273 (by decide) ?_
  refine r_iadd C0 274 dL_law_274 ?_
  refine r_sld CL 275 (6 * c + 1) (nI_add (6 * c) 1) (by omega) (by omega) dL_law_275 ?_
  refine r_aload_n C0 276 0 dL_law_276 rfl rfl ?_
  refine r_iload_n C0 277 3 dL_law_277 rfl rfl ?_
  refine r_iconst C0 278 2 dL_law_278 (by decide) ?_
  refine r_iadd C0 279 dL_law_279 ?_
  refine r_sld CL 280 (6 * c + 2) (nI_add (6 * c) 2) (by omega) (by omega) dL_law_280 ?_
  refine r_if_eq C0 281 288 dL_law_281 (by decide) (fun c_281 => ?_) (fun c_281 => ?_)
  · refine r_iconst C0 288 0 dL_law_288 (by decide) ?_
    refine l_callC (As := [.int _, .int _]) C0 289 2 (k_X4_on ci _ _ (Or.inl rfl)) (rm_X4_on (Nat.le_of_ble_eq_true rfl) (Nat.le_of_ble_eq_true rfl) (by show _ ≤ 600000; omega) (by show _ ≤ 7302250; omega)) mlL_32 im_X4_on se_X4_on ci.1.1 rfl (Nat.le_of_ble_eq_true rfl) dL_law_289 ?_
    rintro _ _ ⟨rfl, S2, rfl, c2⟩
    refine r_aload_n C0 292 2 dL_law_292 rfl rfl ?_
    refine r_aload_n C0 293 0 dL_law_293 rfl rfl ?_
    refine r_iload_n C0 294 3 dL_law_294 rfl rfl ?_
    refine r_iconst C0 295 1 dL_law_295 (by decide) ?_
    refine r_iadd C0 296 dL_law_296 ?_
    refine r_sld CL 297 (6 * c + 1) (nI_add (6 * c) 1) (by omega) (by omega) dL_law_297 ?_
    refine r_aload_n C0 298 0 dL_law_298 rfl rfl ?_
    refine r_iload_n C0 299 3 dL_law_299 rfl rfl ?_
    refine r_iconst C0 300 2 dL_law_300 (by decide) ?_
    refine r_iadd C0 301 dL_law_301 ?_
    refine r_sld CL 302 (6 * c + 2) (nI_add (6 * c) 2) (by omega) (by omega) dL_law_302 ?_
    refine r_if_eq C0 303 310 dL_law_303 (by decide) (fun c_303 => ?_) (fun c_303 => ?_)
    · refine r_iconst C0 310 0 dL_law_310 (by decide) ?_
      refine l_callM (As := [.int _, .int _]) C0 311 2 (k5_on XC_ok _ _) (rm5_on (Nat.le_of_ble_eq_true rfl) (Nat.le_of_ble_eq_true rfl) (by show _ ≤ 600000; omega) (by show _ ≤ 7302250; omega)) mlL_36 im5_on se5_on rfl (Nat.le_of_ble_eq_true rfl) dL_law_311 ?_
      rintro _ _ ⟨rfl, rfl⟩
      refine r_icmp_eq C0 314 777 dL_law_314 (by decide) (fun c_314 => ?_) (fun c_314 => ?_)
      · exact r_widen C0 (k + 360) (n + 7560) (by omega) (by omega) (K S2 v w E Q W P O now _ T c2 cp (iv.on _ _) (by omega) (by omega))
      · exact absurd rfl c_314
    · exact absurd c_281 c_303
  · refine r_iconst C0 284 1 dL_law_284 (by decide) ?_
    refine r_goto C0 285 289 dL_law_285 (by decide) ?_
    refine l_callC (As := [.int _, .int _]) C0 289 2 (k_X4_on ci _ _ (Or.inr rfl)) (rm_X4_on (Nat.le_of_ble_eq_true rfl) (Nat.le_of_ble_eq_true rfl) (by show _ ≤ 600000; omega) (by show _ ≤ 7302250; omega)) mlL_32 im_X4_on se_X4_on ci.1.1 rfl (Nat.le_of_ble_eq_true rfl) dL_law_289 ?_
    rintro _ _ ⟨rfl, S2, rfl, c2⟩
    refine r_aload_n C0 292 2 dL_law_292 rfl rfl ?_
    refine r_aload_n C0 293 0 dL_law_293 rfl rfl ?_
    refine r_iload_n C0 294 3 dL_law_294 rfl rfl ?_
    refine r_iconst C0 295 1 dL_law_295 (by decide) ?_
    refine r_iadd C0 296 dL_law_296 ?_
    refine r_sld CL 297 (6 * c + 1) (nI_add (6 * c) 1) (by omega) (by omega) dL_law_297 ?_
    refine r_aload_n C0 298 0 dL_law_298 rfl rfl ?_
    refine r_iload_n C0 299 3 dL_law_299 rfl rfl ?_
    refine r_iconst C0 300 2 dL_law_300 (by decide) ?_
    refine r_iadd C0 301 dL_law_301 ?_
    refine r_sld CL 302 (6 * c + 2) (nI_add (6 * c) 2) (by omega) (by omega) dL_law_302 ?_
    refine r_if_eq C0 303 310 dL_law_303 (by decide) (fun c_303 => ?_) (fun c_303 => ?_)
    · exact absurd c_303 c_281
    · refine r_iconst C0 306 1 dL_law_306 (by decide) ?_
      refine r_goto C0 307 311 dL_law_307 (by decide) ?_
      refine l_callM (As := [.int _, .int _]) C0 311 2 (k5_on XC_ok _ _) (rm5_on (Nat.le_of_ble_eq_true rfl) (Nat.le_of_ble_eq_true rfl) (by show _ ≤ 600000; omega) (by show _ ≤ 7302250; omega)) mlL_36 im5_on se5_on rfl (Nat.le_of_ble_eq_true rfl) dL_law_311 ?_
      rintro _ _ ⟨rfl, rfl⟩
      refine r_icmp_eq C0 314 777 dL_law_314 (by decide) (fun c_314 => ?_) (fun c_314 => ?_)
      · exact r_widen C0 (k + 360) (n + 7560) (by omega) (by omega) (K S2 v w E Q W P O now _ T c2 cp (iv.on _ _) (by omega) (by omega))
      · exact absurd rfl c_314
set_option maxRecDepth 100000 in
theorem law_5 (CL : CxL D ar (XC tg te mi) b L xs j) (hL : L ≤ 3072) (hc : 6 * c + 6 ≤ L) (ci : CI te a v w E Q W P O S M T) (cp : CapOK v) (iv : Iv M E now) (hE : E ≤ c) (hn : now ≤ 40 * c) (hk : k + 360 ≤ 600000) (hs : n + 7560 ≤ 7302250) (K : LK j te a ar h1 ad b c k n) : j (cW ar S ++ mW ar h1 ad M T) k n 319 [(0, .ref b), (1, .ref (a 0)), (2, .ref h1), (3, .int (nI (6 * c)))] [] := by
  have C0 := CL.to
  have hE6 : E < 600 := by omega
  have hE0 : E ≤ 600 := by omega
  have hnb : now + 40 ≤ 30000 := by omega
  have hO6 := ci.2.2.2.2.1.1.1
  have hP6 := ci.2.2.2.1.1.1
  have oro : OrOK M O := by
    have h9 := iv.2.2.2.1
    rw [ci.2.2.2.2.1.1.2, nI_clamp (by omega)] at h9
    exact h9
  have pko : PkOK M P := by
    have h9 := iv.1.2.2.2.2.1
    rw [ci.2.2.2.1.1.2, nI_clamp (by omega)] at h9
    exact h9
  refine r_aload_n C0 319 1 dL_law_319 rfl rfl ?_
  refine r_aload_n C0 320 0 dL_law_320 rfl rfl ?_
  refine r_iload_n C0 321 3 dL_law_321 rfl rfl ?_
  refine r_iconst C0 322 1 dL_law_322 (by decide) ?_
  refine r_iadd C0 323 dL_law_323 ?_
  refine r_sld CL 324 (6 * c + 1) (nI_add (6 * c) 1) (by omega) (by omega) dL_law_324 ?_
  refine r_aload_n C0 325 0 dL_law_325 rfl rfl ?_
  refine r_iload_n C0 326 3 dL_law_326 rfl rfl ?_
  refine r_iconst C0 327 2 dL_law_327 (by decide) ?_
  refine r_iadd C0 328 dL_law_328 ?_
  refine r_sld CL 329 (6 * c + 2) (nI_add (6 * c) 2) (by omega) (by omega) dL_law_329 ?_
  refine l_callC (As := [.int _, .int _]) C0 330 2 (k_X4_at ci.1 ci.2.2.2.2.2.1 ci.2.2.2.2.2.2.2.2.2.1 iv.1.1 hE0 _ _) (rm_X4_at (Nat.le_of_ble_eq_true rfl) (Nat.le_of_ble_eq_true rfl) (by show _ ≤ 600000; omega) (by show _ ≤ 7302250; omega)) mlL_37 im_X4_at se_X4_at ci.1.1 rfl (Nat.le_of_ble_eq_true rfl) dL_law_330 ?_
  rintro _ _ ⟨rfl, rfl⟩
  refine r_aload_n C0 333 2 dL_law_333 rfl rfl ?_
  refine r_aload_n C0 334 0 dL_law_334 rfl rfl ?_
  refine r_iload_n C0 335 3 dL_law_335 rfl rfl ?_
  refine r_iconst C0 336 1 dL_law_336 (by decide) ?_
  refine r_iadd C0 337 dL_law_337 ?_
  refine r_sld CL 338 (6 * c + 1) (nI_add (6 * c) 1) (by omega) (by omega) dL_law_338 ?_
  refine r_aload_n C0 339 0 dL_law_339 rfl rfl ?_
  refine r_iload_n C0 340 3 dL_law_340 rfl rfl ?_
  refine r_iconst C0 341 2 dL_law_341 (by decide) ?_
  refine r_iadd C0 342 dL_law_342 ?_
  refine r_sld CL 343 (6 * c + 2) (nI_add (6 * c) 2) (by omega) (by omega) dL_law_343 ?_
  refine l_callM (As := [.int _, .int _]) C0 344 2 (k5_at XC_ok hE0 iv.1.1.2.1 _ _) (rm5_at (Nat.le_of_ble_eq_true rfl) (Nat.le_of_ble_eq_true rfl) (by show _ ≤ 600000; omega) (by show _ ≤ 7302250; omega)) mlL_40 im5_at se5_at rfl (Nat.le_of_ble_eq_true rfl) dL_law_344 ?_
  rintro _ _ ⟨rfl, rfl⟩
  refine r_icmp_eq C0 347 777 dL_law_347 (by decide) (fun c_347 => ?_) (fun c_347 => ?_)
  · exact r_widen C0 (k + 360) (n + 7560) (by omega) (by omega) (K S v w E Q W P O now M T ci cp iv (by omega) (by omega))
  · exact absurd rfl c_347
set_option maxRecDepth 100000 in
theorem law_6 (CL : CxL D ar (XC tg te mi) b L xs j) (hL : L ≤ 3072) (hc : 6 * c + 6 ≤ L) (ci : CI te a v w E Q W P O S M T) (cp : CapOK v) (iv : Iv M E now) (hE : E ≤ c) (hn : now ≤ 40 * c) (hk : k + 360 ≤ 600000) (hs : n + 7560 ≤ 7302250) (K : LK j te a ar h1 ad b c k n) : j (cW ar S ++ mW ar h1 ad M T) k n 352 [(0, .ref b), (1, .ref (a 0)), (2, .ref h1), (3, .int (nI (6 * c)))] [] := by
  have C0 := CL.to
  have hE6 : E < 600 := by omega
  have hE0 : E ≤ 600 := by omega
  have hnb : now + 40 ≤ 30000 := by omega
  have hO6 := ci.2.2.2.2.1.1.1
  have hP6 := ci.2.2.2.1.1.1
  have oro : OrOK M O := by
    have h9 := iv.2.2.2.1
    rw [ci.2.2.2.2.1.1.2, nI_clamp (by omega)] at h9
    exact h9
  have pko : PkOK M P := by
    have h9 := iv.1.2.2.2.2.1
    rw [ci.2.2.2.1.1.2, nI_clamp (by omega)] at h9
    exact h9
  refine r_aload_n C0 352 1 dL_law_352 rfl rfl ?_
  refine r_aload_n C0 353 0 dL_law_353 rfl rfl ?_
  refine r_iload_n C0 354 3 dL_law_354 rfl rfl ?_
  refine r_iconst C0 355 1 dL_law_355 (by decide) ?_
  refine r_iadd C0 356 dL_law_356 ?_
  refine r_sld CL 357 (6 * c + 1) (nI_add (6 * c) 1) (by omega) (by omega) dL_law_357 ?_
  refine r_aload_n C0 358 0 dL_law_358 rfl rfl ?_
  refine r_iload_n C0 359 3 dL_law_359 rfl rfl ?_
  refine r_iconst C0 360 2 dL_law_360 (by decide) ?_
  refine r_iadd C0 361 dL_law_361 ?_
  refine r_sld CL 362 (6 * c + 2) (nI_add (6 * c) 2) (by omega) (by omega) dL_law_362 ?_
  refine l_callC (As := [.int _, .int _]) C0 363 2 (k_X4_packer ci.1 ci.2.2.2.2.2.2.1 ci.2.2.2.2.2.2.2.1 _ _) (rm_X4_packer (Nat.le_of_ble_eq_true rfl) (Nat.le_of_ble_eq_true rfl) (by show _ ≤ 600000; omega) (by show _ ≤ 7302250; omega)) mlL_41 im_X4_packer se_X4_packer ci.1.1 rfl (Nat.le_of_ble_eq_true rfl) dL_law_363 ?_
  rintro _ _ ⟨rfl, rfl⟩
  refine r_aload_n C0 366 2 dL_law_366 rfl rfl ?_
  refine r_aload_n C0 367 0 dL_law_367 rfl rfl ?_
  refine r_iload_n C0 368 3 dL_law_368 rfl rfl ?_
  refine r_iconst C0 369 1 dL_law_369 (by decide) ?_
  refine r_iadd C0 370 dL_law_370 ?_
  refine r_sld CL 371 (6 * c + 1) (nI_add (6 * c) 1) (by omega) (by omega) dL_law_371 ?_
  refine r_aload_n C0 372 0 dL_law_372 rfl rfl ?_
  refine r_iload_n C0 373 3 dL_law_373 rfl rfl ?_
  refine r_iconst C0 374 2 dL_law_374 (by decide) ?_
  refine r_iadd C0 375 dL_law_375 ?_
  refine r_sld CL 376 (6 * c + 2) (nI_add (6 * c) 2) (by omega) (by omega) dL_law_376 ?_
  refine l_callM (As := [.int _, .int _]) C0 377 2 (k5_packer XC_ok hE0 iv.tr6 _ _) (rm5_packer (Nat.le_of_ble_eq_true rfl) (Nat.le_of_ble_eq_true rfl) (by show _ ≤ 600000; omega) (by show _ ≤ 7302250; omega)) mlL_44 im5_packer se5_packer rfl (Nat.le_of_ble_eq_true rfl) dL_law_377 ?_
  rintro _ _ ⟨rfl, rfl⟩
  refine r_icmp_eq C0 380 777 dL_law_380 (by decide) (fun c_380 => ?_) (fun c_380 => ?_)
  · exact r_widen C0 (k + 360) (n + 7560) (by omega) (by omega) (K S v w E Q W P O now M T ci cp iv (by omega) (by omega))
  · exact absurd rfl c_380
set_option maxRecDepth 100000 in
theorem law_7 (CL : CxL D ar (XC tg te mi) b L xs j) (hL : L ≤ 3072) (hc : 6 * c + 6 ≤ L) (ci : CI te a v w E Q W P O S M T) (cp : CapOK v) (iv : Iv M E now) (hE : E ≤ c) (hn : now ≤ 40 * c) (hk : k + 360 ≤ 600000) (hs : n + 7560 ≤ 7302250) (K : LK j te a ar h1 ad b c k n) : j (cW ar S ++ mW ar h1 ad M T) k n 385 [(0, .ref b), (1, .ref (a 0)), (2, .ref h1), (3, .int (nI (6 * c)))] [] := by
  have C0 := CL.to
  have hE6 : E < 600 := by omega
  have hE0 : E ≤ 600 := by omega
  have hnb : now + 40 ≤ 30000 := by omega
  have hO6 := ci.2.2.2.2.1.1.1
  have hP6 := ci.2.2.2.1.1.1
  have oro : OrOK M O := by
    have h9 := iv.2.2.2.1
    rw [ci.2.2.2.2.1.1.2, nI_clamp (by omega)] at h9
    exact h9
  have pko : PkOK M P := by
    have h9 := iv.1.2.2.2.2.1
    rw [ci.2.2.2.1.1.2, nI_clamp (by omega)] at h9
    exact h9
  refine r_aload_n C0 385 1 dL_law_385 rfl rfl ?_
  refine r_aload_n C0 386 0 dL_law_386 rfl rfl ?_
  refine r_iload_n C0 387 3 dL_law_387 rfl rfl ?_
  refine r_iconst C0 388 1 dL_law_388 (by decide) ?_
  refine r_iadd C0 389 dL_law_389 ?_
  refine r_sld CL 390 (6 * c + 1) (nI_add (6 * c) 1) (by omega) (by omega) dL_law_390 ?_
  refine l_callC (As := [.int _]) C0 391 1 (k_X4_count ci.1 ci.2.1 ci.2.2.1 ci.2.2.2.1 ci.2.2.2.2.2.1 ci.2.2.2.2.2.2.1 ci.2.2.2.2.2.2.2.1 ci.2.2.2.2.2.2.2.2.2.2.2.1 iv.1.1.2.1 hE0 iv.2.2.1 _) (rm_X4_count (Nat.le_of_ble_eq_true rfl) (Nat.le_of_ble_eq_true rfl) (by show _ ≤ 600000; omega) (by show _ ≤ 7302250; omega)) mlL_45 im_X4_count se_X4_count ci.1.1 rfl (Nat.le_of_ble_eq_true rfl) dL_law_391 ?_
  rintro _ _ ⟨rfl, rfl⟩
  refine r_aload_n C0 394 2 dL_law_394 rfl rfl ?_
  refine r_aload_n C0 395 0 dL_law_395 rfl rfl ?_
  refine r_iload_n C0 396 3 dL_law_396 rfl rfl ?_
  refine r_iconst C0 397 1 dL_law_397 (by decide) ?_
  refine r_iadd C0 398 dL_law_398 ?_
  refine r_sld CL 399 (6 * c + 1) (nI_add (6 * c) 1) (by omega) (by omega) dL_law_399 ?_
  refine l_callM (As := [.int _]) C0 400 1 (k5_count XC_ok _) (rm5_count (Nat.le_of_ble_eq_true rfl) (Nat.le_of_ble_eq_true rfl) (by show _ ≤ 600000; omega) (by show _ ≤ 7302250; omega)) mlL_48 im5_count se5_count rfl (Nat.le_of_ble_eq_true rfl) dL_law_400 ?_
  rintro _ _ ⟨rfl, rfl⟩
  refine r_icmp_eq C0 403 777 dL_law_403 (by decide) (fun c_403 => ?_) (fun c_403 => ?_)
  · exact r_widen C0 (k + 360) (n + 7560) (by omega) (by omega) (K S v w E Q W P O now M T ci cp iv (by omega) (by omega))
  · exact absurd rfl c_403
set_option maxRecDepth 100000 in
theorem law_8 (CL : CxL D ar (XC tg te mi) b L xs j) (hL : L ≤ 3072) (hc : 6 * c + 6 ≤ L) (ci : CI te a v w E Q W P O S M T) (cp : CapOK v) (iv : Iv M E now) (hE : E ≤ c) (hn : now ≤ 40 * c) (hk : k + 360 ≤ 600000) (hs : n + 7560 ≤ 7302250) (K : LK j te a ar h1 ad b c k n) : j (cW ar S ++ mW ar h1 ad M T) k n 408 [(0, .ref b), (1, .ref (a 0)), (2, .ref h1), (3, .int (nI (6 * c)))] [] := by
  have C0 := CL.to
  have hE6 : E < 600 := by omega
  have hE0 : E ≤ 600 := by omega
  have hnb : now + 40 ≤ 30000 := by omega
  have hO6 := ci.2.2.2.2.1.1.1
  have hP6 := ci.2.2.2.1.1.1
  have oro : OrOK M O := by
    have h9 := iv.2.2.2.1
    rw [ci.2.2.2.2.1.1.2, nI_clamp (by omega)] at h9
    exact h9
  have pko : PkOK M P := by
    have h9 := iv.1.2.2.2.2.1
    rw [ci.2.2.2.1.1.2, nI_clamp (by omega)] at h9
    exact h9
  refine r_aload_n C0 408 1 dL_law_408 rfl rfl ?_
  refine r_aload_n C0 409 0 dL_law_409 rfl rfl ?_
  refine r_iload_n C0 410 3 dL_law_410 rfl rfl ?_
  refine r_iconst C0 411 1 dL_law_411 (by decide) ?_
  refine r_iadd C0 412 dL_law_412 ?_
  refine r_sld CL 413 (6 * c + 1) (nI_add (6 * c) 1) (by omega) (by omega) dL_law_413 ?_
  refine r_aload_n C0 414 0 dL_law_414 rfl rfl ?_
  refine r_iload_n C0 415 3 dL_law_415 rfl rfl ?_
  refine r_iconst C0 416 2 dL_law_416 (by decide) ?_
  refine r_iadd C0 417 dL_law_417 ?_
  refine r_sld CL 418 (6 * c + 2) (nI_add (6 * c) 2) (by omega) (by omega) dL_law_418 ?_
  refine l_callC (As := [.int _, .int _]) C0 419 2 (k_X4_barn ci.1 ci.2.2.2.2.2.2.2.2.2.2.2.1 _ _) (rm_X4_barn (Nat.le_of_ble_eq_true rfl) (Nat.le_of_ble_eq_true rfl) (by show _ ≤ 600000; omega) (by show _ ≤ 7302250; omega)) mlL_49 im_X4_barn se_X4_barn ci.1.1 rfl (Nat.le_of_ble_eq_true rfl) dL_law_419 ?_
  rintro _ _ ⟨rfl, rfl⟩
  refine r_aload_n C0 422 2 dL_law_422 rfl rfl ?_
  refine r_aload_n C0 423 0 dL_law_423 rfl rfl ?_
  refine r_iload_n C0 424 3 dL_law_424 rfl rfl ?_
  refine r_iconst C0 425 1 dL_law_425 (by decide) ?_
  refine r_iadd C0 426 dL_law_426 ?_
  refine r_sld CL 427 (6 * c + 1) (nI_add (6 * c) 1) (by omega) (by omega) dL_law_427 ?_
  refine r_aload_n C0 428 0 dL_law_428 rfl rfl ?_
  refine r_iload_n C0 429 3 dL_law_429 rfl rfl ?_
  refine r_iconst C0 430 2 dL_law_430 (by decide) ?_
  refine r_iadd C0 431 dL_law_431 ?_
  refine r_sld CL 432 (6 * c + 2) (nI_add (6 * c) 2) (by omega) (by omega) dL_law_432 ?_
  refine l_callM (As := [.int _, .int _]) C0 433 2 (k5_barn XC_ok _ _) (rm5_barn (Nat.le_of_ble_eq_true rfl) (Nat.le_of_ble_eq_true rfl) (by show _ ≤ 600000; omega) (by show _ ≤ 7302250; omega)) mlL_52 im5_barn se5_barn rfl (Nat.le_of_ble_eq_true rfl) dL_law_433 ?_
  rintro _ _ ⟨rfl, rfl⟩
  refine r_icmp_eq C0 436 777 dL_law_436 (by decide) (fun c_436 => ?_) (fun c_436 => ?_)
  · exact r_widen C0 (k + 360) (n + 7560) (by omega) (by omega) (K S v w E Q W P O now M T ci cp iv (by omega) (by omega))
  · exact absurd rfl c_436
set_option maxRecDepth 100000 in
theorem law_9 (CL : CxL D ar (XC tg te mi) b L xs j) (hL : L ≤ 3072) (hc : 6 * c + 6 ≤ L) (ci : CI te a v w E Q W P O S M T) (cp : CapOK v) (iv : Iv M E now) (hE : E ≤ c) (hn : now ≤ 40 * c) (hk : k + 360 ≤ 600000) (hs : n + 7560 ≤ 7302250) (K : LK j te a ar h1 ad b c k n) : j (cW ar S ++ mW ar h1 ad M T) k n 441 [(0, .ref b), (1, .ref (a 0)), (2, .ref h1), (3, .int (nI (6 * c)))] [] := by
  have C0 := CL.to
  have hE6 : E < 600 := by omega
  have hE0 : E ≤ 600 := by omega
  have hnb : now + 40 ≤ 30000 := by omega
  have hO6 := ci.2.2.2.2.1.1.1
  have hP6 := ci.2.2.2.1.1.1
  have oro : OrOK M O := by
    have h9 := iv.2.2.2.1
    rw [ci.2.2.2.2.1.1.2, nI_clamp (by omega)] at h9
    exact h9
  have pko : PkOK M P := by
    have h9 := iv.1.2.2.2.2.1
    rw [ci.2.2.2.1.1.2, nI_clamp (by omega)] at h9
    exact h9
  refine r_aload_n C0 441 1 dL_law_441 rfl rfl ?_
  refine r_aload_n C0 442 0 dL_law_442 rfl rfl ?_
  refine r_iload_n C0 443 3 dL_law_443 rfl rfl ?_
  refine r_iconst C0 444 1 dL_law_444 (by decide) ?_
  refine r_iadd C0 445 dL_law_445 ?_
  refine r_sld CL 446 (6 * c + 1) (nI_add (6 * c) 1) (by omega) (by omega) dL_law_446 ?_
  refine r_aload_n C0 447 0 dL_law_447 rfl rfl ?_
  refine r_iload_n C0 448 3 dL_law_448 rfl rfl ?_
  refine r_iconst C0 449 2 dL_law_449 (by decide) ?_
  refine r_iadd C0 450 dL_law_450 ?_
  refine r_sld CL 451 (6 * c + 2) (nI_add (6 * c) 2) (by omega) (by omega) dL_law_451 ?_
  refine l_callC (As := [.int _, .int _]) C0 452 2 (k_X4_pack ci.1 ci.2.2.2.1 ci.2.2.2.2.2.2.2.2.1 _ _) (rm_X4_pack (Nat.le_of_ble_eq_true rfl) (Nat.le_of_ble_eq_true rfl) (by show _ ≤ 600000; omega) (by show _ ≤ 7302250; omega)) mlL_53 im_X4_pack se_X4_pack ci.1.1 rfl (Nat.le_of_ble_eq_true rfl) dL_law_452 ?_
  rintro _ _ ⟨rfl, rfl⟩
  refine r_aload_n C0 455 2 dL_law_455 rfl rfl ?_
  refine r_aload_n C0 456 0 dL_law_456 rfl rfl ?_
  refine r_iload_n C0 457 3 dL_law_457 rfl rfl ?_
  refine r_iconst C0 458 1 dL_law_458 (by decide) ?_
  refine r_iadd C0 459 dL_law_459 ?_
  refine r_sld CL 460 (6 * c + 1) (nI_add (6 * c) 1) (by omega) (by omega) dL_law_460 ?_
  refine r_aload_n C0 461 0 dL_law_461 rfl rfl ?_
  refine r_iload_n C0 462 3 dL_law_462 rfl rfl ?_
  refine r_iconst C0 463 2 dL_law_463 (by decide) ?_
  refine r_iadd C0 464 dL_law_464 ?_
  refine r_sld CL 465 (6 * c + 2) (nI_add (6 * c) 2) (by omega) (by omega) dL_law_465 ?_
  refine l_callM (As := [.int _, .int _]) C0 466 2 (k5_pack XC_ok ci.2.2.2.1.1.2 ci.2.2.2.1.1.1 _ _) (rm5_pack (Nat.le_of_ble_eq_true rfl) (Nat.le_of_ble_eq_true rfl) (by show _ ≤ 600000; omega) (by show _ ≤ 7302250; omega)) mlL_56 im5_pack se5_pack rfl (Nat.le_of_ble_eq_true rfl) dL_law_466 ?_
  rintro _ _ ⟨rfl, rfl⟩
  refine r_icmp_eq C0 469 777 dL_law_469 (by decide) (fun c_469 => ?_) (fun c_469 => ?_)
  · exact r_widen C0 (k + 360) (n + 7560) (by omega) (by omega) (K S v w E Q W P O now M T ci cp iv (by omega) (by omega))
  · exact absurd rfl c_469
set_option maxRecDepth 100000 in
theorem law_10 (CL : CxL D ar (XC tg te mi) b L xs j) (hL : L ≤ 3072) (hc : 6 * c + 6 ≤ L) (ci : CI te a v w E Q W P O S M T) (cp : CapOK v) (iv : Iv M E now) (hE : E ≤ c) (hn : now ≤ 40 * c) (hk : k + 360 ≤ 600000) (hs : n + 7560 ≤ 7302250) (K : LK j te a ar h1 ad b c k n) : j (cW ar S ++ mW ar h1 ad M T) k n 474 [(0, .ref b), (1, .ref (a 0)), (2, .ref h1), (3, .int (nI (6 * c)))] [] := by
  have C0 := CL.to
  have hE6 : E < 600 := by omega
  have hE0 : E ≤ 600 := by omega
  have hnb : now + 40 ≤ 30000 := by omega
  have hO6 := ci.2.2.2.2.1.1.1
  have hP6 := ci.2.2.2.1.1.1
  have oro : OrOK M O := by
    have h9 := iv.2.2.2.1
    rw [ci.2.2.2.2.1.1.2, nI_clamp (by omega)] at h9
    exact h9
  have pko : PkOK M P := by
    have h9 := iv.1.2.2.2.2.1
    rw [ci.2.2.2.1.1.2, nI_clamp (by omega)] at h9
    exact h9
  refine r_aload_n C0 474 1 dL_law_474 rfl rfl ?_
  refine r_aload_n C0 475 0 dL_law_475 rfl rfl ?_
  refine r_iload_n C0 476 3 dL_law_476 rfl rfl ?_
  refine r_iconst C0 477 1 dL_law_477 (by decide) ?_
  refine r_iadd C0 478 dL_law_478 ?_
  refine r_sld CL 479 (6 * c + 1) (nI_add (6 * c) 1) (by omega) (by omega) dL_law_479 ?_
  refine l_callC (As := [.int _]) C0 480 1 (k_X4_free ci.1 ci.2.2.2.1 ci.2.2.2.2.2.2.2.2.1 _) (rm_X4_free (Nat.le_of_ble_eq_true rfl) (Nat.le_of_ble_eq_true rfl) (by show _ ≤ 600000; omega) (by show _ ≤ 7302250; omega)) mlL_57 im_X4_free se_X4_free ci.1.1 rfl (Nat.le_of_ble_eq_true rfl) dL_law_480 ?_
  rintro _ _ ⟨rfl, rfl⟩
  refine r_aload_n C0 483 2 dL_law_483 rfl rfl ?_
  refine r_aload_n C0 484 0 dL_law_484 rfl rfl ?_
  refine r_iload_n C0 485 3 dL_law_485 rfl rfl ?_
  refine r_iconst C0 486 1 dL_law_486 (by decide) ?_
  refine r_iadd C0 487 dL_law_487 ?_
  refine r_sld CL 488 (6 * c + 1) (nI_add (6 * c) 1) (by omega) (by omega) dL_law_488 ?_
  refine l_callM (As := [.int _]) C0 489 1 (k5_free XC_ok ci.2.2.2.1.1.2 ci.2.2.2.1.1.1 _) (rm5_free (Nat.le_of_ble_eq_true rfl) (Nat.le_of_ble_eq_true rfl) (by show _ ≤ 600000; omega) (by show _ ≤ 7302250; omega)) mlL_60 im5_free se5_free rfl (Nat.le_of_ble_eq_true rfl) dL_law_489 ?_
  rintro _ _ ⟨rfl, rfl⟩
  refine r_icmp_eq C0 492 777 dL_law_492 (by decide) (fun c_492 => ?_) (fun c_492 => ?_)
  · exact r_widen C0 (k + 360) (n + 7560) (by omega) (by omega) (K S v w E Q W P O now M T ci cp iv (by omega) (by omega))
  · exact absurd rfl c_492
set_option maxRecDepth 100000 in
theorem law_11 (CL : CxL D ar (XC tg te mi) b L xs j) (hL : L ≤ 3072) (hc : 6 * c + 6 ≤ L) (ci : CI te a v w E Q W P O S M T) (cp : CapOK v) (iv : Iv M E now) (hE : E ≤ c) (hn : now ≤ 40 * c) (hk : k + 360 ≤ 600000) (hs : n + 7560 ≤ 7302250) (K : LK j te a ar h1 ad b c k n) : j (cW ar S ++ mW ar h1 ad M T) k n 497 [(0, .ref b), (1, .ref (a 0)), (2, .ref h1), (3, .int (nI (6 * c)))] [] := by
  have C0 := CL.to
  have hE6 : E < 600 := by omega
  have hE0 : E ≤ 600 := by omega
  have hnb : now + 40 ≤ 30000 := by omega
  have hO6 := ci.2.2.2.2.1.1.1
  have hP6 := ci.2.2.2.1.1.1
  have oro : OrOK M O := by
    have h9 := iv.2.2.2.1
    rw [ci.2.2.2.2.1.1.2, nI_clamp (by omega)] at h9
    exact h9
  have pko : PkOK M P := by
    have h9 := iv.1.2.2.2.2.1
    rw [ci.2.2.2.1.1.2, nI_clamp (by omega)] at h9
    exact h9
  refine r_aload_n C0 497 1 dL_law_497 rfl rfl ?_
  refine r_aload_n C0 498 0 dL_law_498 rfl rfl ?_
  refine r_iload_n C0 499 3 dL_law_499 rfl rfl ?_
  refine r_iconst C0 500 1 dL_law_500 (by decide) ?_
  refine r_iadd C0 501 dL_law_501 ?_
  refine r_sld CL 502 (6 * c + 1) (nI_add (6 * c) 1) (by omega) (by omega) dL_law_502 ?_
  refine r_aload_n C0 503 0 dL_law_503 rfl rfl ?_
  refine r_iload_n C0 504 3 dL_law_504 rfl rfl ?_
  refine r_iconst C0 505 2 dL_law_505 (by decide) ?_
  refine r_iadd C0 506 dL_law_506 ?_
  refine r_sld CL 507 (6 * c + 2) (nI_add (6 * c) 2) (by omega) (by omega) dL_law_507 ?_
  refine r_aload_n C0 508 0 dL_law_508 rfl rfl ?_
  refine r_iload_n C0 509 3 dL_law_509 rfl rfl ?_
  refine r_iconst C0 510 3 dL_law_510 (by decide) ?_
  refine r_iadd C0 511 dL_law_511 ?_
  refine r_sld CL 512 (6 * c + 3) (nI_add (6 * c) 3) (by omega) (by omega) dL_law_512 ?_
  refine l_callC (As := [.int _, .int _, .int _]) C0 513 3 (k_X4_order ci cp _ _ _) (rm_X4_order (Nat.le_of_ble_eq_true rfl) (Nat.le_of_ble_eq_true rfl) (by show _ ≤ 600000; omega) (by show _ ≤ 7302250; omega)) mlL_61 im_X4_order se_X4_order ci.1.1 rfl (Nat.le_of_ble_eq_true rfl) dL_law_513 ?_
  rintro _ _ ⟨rfl, S2, v2, w2, O2, rfl, c2, cp2⟩
  refine r_aload_n C0 516 2 dL_law_516 rfl rfl ?_
  refine r_aload_n C0 517 0 dL_law_517 rfl rfl ?_
  refine r_iload_n C0 518 3 dL_law_518 rfl rfl ?_
  refine r_iconst C0 519 1 dL_law_519 (by decide) ?_
  refine r_iadd C0 520 dL_law_520 ?_
  refine r_sld CL 521 (6 * c + 1) (nI_add (6 * c) 1) (by omega) (by omega) dL_law_521 ?_
  refine r_aload_n C0 522 0 dL_law_522 rfl rfl ?_
  refine r_iload_n C0 523 3 dL_law_523 rfl rfl ?_
  refine r_iconst C0 524 2 dL_law_524 (by decide) ?_
  refine r_iadd C0 525 dL_law_525 ?_
  refine r_sld CL 526 (6 * c + 2) (nI_add (6 * c) 2) (by omega) (by omega) dL_law_526 ?_
  refine r_aload_n C0 527 0 dL_law_527 rfl rfl ?_
  refine r_iload_n C0 528 3 dL_law_528 rfl rfl ?_
  refine r_iconst C0 529 3 dL_law_529 (by decide) ?_
  refine r_iadd C0 530 dL_law_530 ?_
  refine r_sld CL 531 (6 * c + 3) (nI_add (6 * c) 3) (by omega) (by omega) dL_law_531 ?_
  refine l_callM (As := [.int _, .int _, .int _]) C0 532 3 (k5_order XC_ok ci.2.2.2.2.1.1.2 ci.2.2.2.2.1.1.1 _ _ _) (rm5_order (Nat.le_of_ble_eq_true rfl) (Nat.le_of_ble_eq_true rfl) (by show _ ≤ 600000; omega) (by show _ ≤ 7302250; omega)) mlL_65 im5_order se5_order rfl (Nat.le_of_ble_eq_true rfl) dL_law_532 ?_
  rintro _ _ ⟨rfl, rfl⟩
  refine r_icmp_eq C0 535 777 dL_law_535 (by decide) (fun c_535 => ?_) (fun c_535 => ?_)
  · exact r_widen C0 (k + 360) (n + 7560) (by omega) (by omega) (K S2 v2 w2 E Q W P O2 now _ T c2 cp2 (iv.order ci.2.2.2.2.1.1.2 ci.2.2.2.2.1.1.1 _ _ _) (by omega) (by omega))
  · exact absurd rfl c_535
set_option maxRecDepth 100000 in
theorem law_12 (CL : CxL D ar (XC tg te mi) b L xs j) (hL : L ≤ 3072) (hc : 6 * c + 6 ≤ L) (ci : CI te a v w E Q W P O S M T) (cp : CapOK v) (iv : Iv M E now) (hE : E ≤ c) (hn : now ≤ 40 * c) (hk : k + 360 ≤ 600000) (hs : n + 7560 ≤ 7302250) (K : LK j te a ar h1 ad b c k n) : j (cW ar S ++ mW ar h1 ad M T) k n 540 [(0, .ref b), (1, .ref (a 0)), (2, .ref h1), (3, .int (nI (6 * c)))] [] := by
  have C0 := CL.to
  have hE6 : E < 600 := by omega
  have hE0 : E ≤ 600 := by omega
  have hnb : now + 40 ≤ 30000 := by omega
  have hO6 := ci.2.2.2.2.1.1.1
  have hP6 := ci.2.2.2.1.1.1
  have oro : OrOK M O := by
    have h9 := iv.2.2.2.1
    rw [ci.2.2.2.2.1.1.2, nI_clamp (by omega)] at h9
    exact h9
  have pko : PkOK M P := by
    have h9 := iv.1.2.2.2.2.1
    rw [ci.2.2.2.1.1.2, nI_clamp (by omega)] at h9
    exact h9
  refine r_aload_n C0 540 1 dL_law_540 rfl rfl ?_
  refine r_aload_n C0 541 0 dL_law_541 rfl rfl ?_
  refine r_iload_n C0 542 3 dL_law_542 rfl rfl ?_
  refine r_iconst C0 543 1 dL_law_543 (by decide) ?_
  refine r_iadd C0 544 dL_law_544 ?_
  refine r_sld CL 545 (6 * c + 1) (nI_add (6 * c) 1) (by omega) (by omega) dL_law_545 ?_
  refine l_callC (As := [.int _]) C0 546 1 (k_X4_best ci _) (rm_X4_best (Nat.le_of_ble_eq_true rfl) (Nat.le_of_ble_eq_true rfl) (by show _ ≤ 600000; omega) (by show _ ≤ 7302250; omega)) mlL_66 im_X4_best se_X4_best ci.1.1 rfl (Nat.le_of_ble_eq_true rfl) dL_law_546 ?_
  rintro _ _ ⟨rfl, S2, rfl, hx⟩
  have c2 := hx.ci ci
  refine r_aload_n C0 549 2 dL_law_549 rfl rfl ?_
  refine r_aload_n C0 550 0 dL_law_550 rfl rfl ?_
  refine r_iload_n C0 551 3 dL_law_551 rfl rfl ?_
  refine r_iconst C0 552 1 dL_law_552 (by decide) ?_
  refine r_iadd C0 553 dL_law_553 ?_
  refine r_sld CL 554 (6 * c + 1) (nI_add (6 * c) 1) (by omega) (by omega) dL_law_554 ?_
  refine l_callM (As := [.int _]) C0 555 1 (k5_best XC_ok ci.2.2.2.1.1.2 ci.2.2.2.1.1.1 ci.2.2.2.2.1.1.2 ci.2.2.2.2.1.1.1 _) (rm5_best (Nat.le_of_ble_eq_true rfl) (Nat.le_of_ble_eq_true rfl) (by show _ ≤ 600000; omega) (by show _ ≤ 7302250; omega)) mlL_69 im5_best se5_best rfl (Nat.le_of_ble_eq_true rfl) dL_law_555 ?_
  rintro _ _ ⟨rfl, rfl⟩
  refine r_icmp_eq C0 558 777 dL_law_558 (by decide) (fun c_558 => ?_) (fun c_558 => ?_)
  · exact r_widen C0 (k + 360) (n + 7560) (by omega) (by omega) (K S2 v w E Q W P O now M T c2 cp iv (by omega) (by omega))
  · exact absurd rfl c_558
set_option maxRecDepth 100000 in
theorem law_13 (CL : CxL D ar (XC tg te mi) b L xs j) (hL : L ≤ 3072) (hc : 6 * c + 6 ≤ L) (ci : CI te a v w E Q W P O S M T) (cp : CapOK v) (iv : Iv M E now) (hE : E ≤ c) (hn : now ≤ 40 * c) (hk : k + 360 ≤ 600000) (hs : n + 7560 ≤ 7302250) (K : LK j te a ar h1 ad b c k n) : j (cW ar S ++ mW ar h1 ad M T) k n 563 [(0, .ref b), (1, .ref (a 0)), (2, .ref h1), (3, .int (nI (6 * c)))] [] := by
  have C0 := CL.to
  have hE6 : E < 600 := by omega
  have hE0 : E ≤ 600 := by omega
  have hnb : now + 40 ≤ 30000 := by omega
  have hO6 := ci.2.2.2.2.1.1.1
  have hP6 := ci.2.2.2.1.1.1
  have oro : OrOK M O := by
    have h9 := iv.2.2.2.1
    rw [ci.2.2.2.2.1.1.2, nI_clamp (by omega)] at h9
    exact h9
  have pko : PkOK M P := by
    have h9 := iv.1.2.2.2.2.1
    rw [ci.2.2.2.1.1.2, nI_clamp (by omega)] at h9
    exact h9
  refine r_aload_n C0 563 1 dL_law_563 rfl rfl ?_
  refine l_callC (As := []) C0 564 0 (k_X4_serve ci oro) (rm_X4_serve (Nat.le_of_ble_eq_true rfl) (Nat.le_of_ble_eq_true rfl) (by show _ ≤ 600000; omega) (by show _ ≤ 7302250; omega)) mlL_70 im_X4_serve se_X4_serve ci.1.1 rfl (Nat.le_of_ble_eq_true rfl) dL_law_564 ?_
  rintro _ _ ⟨rfl, S2, rfl, c2⟩
  refine r_aload_n C0 567 2 dL_law_567 rfl rfl ?_
  refine l_callM (As := []) C0 568 0 (k5_serve XC_ok ci.2.2.2.1.1.2 ci.2.2.2.1.1.1 ci.2.2.2.2.1.1.2 ci.2.2.2.2.1.1.1) (rm5_serve (Nat.le_of_ble_eq_true rfl) (Nat.le_of_ble_eq_true rfl) (by show _ ≤ 600000; omega) (by show _ ≤ 7302250; omega)) mlL_74 im5_serve se5_serve rfl (Nat.le_of_ble_eq_true rfl) dL_law_568 ?_
  rintro _ _ ⟨rfl, rfl⟩
  refine r_icmp_eq C0 571 777 dL_law_571 (by decide) (fun c_571 => ?_) (fun c_571 => ?_)
  · exact r_widen C0 (k + 360) (n + 7560) (by omega) (by omega) (K S2 v w E Q W P O now _ T c2 cp iv.serve (by omega) (by omega))
  · exact absurd rfl c_571
set_option maxRecDepth 100000 in
theorem law_14 (CL : CxL D ar (XC tg te mi) b L xs j) (hL : L ≤ 3072) (hc : 6 * c + 6 ≤ L) (ci : CI te a v w E Q W P O S M T) (cp : CapOK v) (iv : Iv M E now) (hE : E ≤ c) (hn : now ≤ 40 * c) (hk : k + 360 ≤ 600000) (hs : n + 7560 ≤ 7302250) (K : LK j te a ar h1 ad b c k n) : j (cW ar S ++ mW ar h1 ad M T) k n 576 [(0, .ref b), (1, .ref (a 0)), (2, .ref h1), (3, .int (nI (6 * c)))] [] := by
  have C0 := CL.to
  have hE6 : E < 600 := by omega
  have hE0 : E ≤ 600 := by omega
  have hnb : now + 40 ≤ 30000 := by omega
  have hO6 := ci.2.2.2.2.1.1.1
  have hP6 := ci.2.2.2.1.1.1
  have oro : OrOK M O := by
    have h9 := iv.2.2.2.1
    rw [ci.2.2.2.2.1.1.2, nI_clamp (by omega)] at h9
    exact h9
  have pko : PkOK M P := by
    have h9 := iv.1.2.2.2.2.1
    rw [ci.2.2.2.1.1.2, nI_clamp (by omega)] at h9
    exact h9
  refine r_aload_n C0 576 1 dL_law_576 rfl rfl ?_
  refine r_aload_n C0 577 0 dL_law_577 rfl rfl ?_
  refine r_iload_n C0 578 3 dL_law_578 rfl rfl ?_
  refine r_iconst C0 579 1 dL_law_579 (by decide) ?_
  refine r_iadd C0 580 dL_law_580 ?_
  refine r_sld CL 581 (6 * c + 1) (nI_add (6 * c) 1) (by omega) (by omega) dL_law_581 ?_
  refine r_aload_n C0 582 0 dL_law_582 rfl rfl ?_
  refine r_iload_n C0 583 3 dL_law_583 rfl rfl ?_
  refine r_iconst C0 584 2 dL_law_584 (by decide) ?_
  refine r_iadd C0 585 dL_law_585 ?_
  refine r_sld CL 586 (6 * c + 2) (nI_add (6 * c) 2) (by omega) (by omega) dL_law_586 ?_
  refine l_callC (As := [.int _, .int _]) C0 587 2 (k_X4_about ci.1 ci.2.2.2.2.1 ci.2.2.2.2.2.2.2.2.2.2.1 _ _) (rm_X4_about (Nat.le_of_ble_eq_true rfl) (Nat.le_of_ble_eq_true rfl) (by show _ ≤ 600000; omega) (by show _ ≤ 7302250; omega)) mlL_75 im_X4_about se_X4_about ci.1.1 rfl (Nat.le_of_ble_eq_true rfl) dL_law_587 ?_
  rintro _ _ ⟨rfl, rfl⟩
  refine r_aload_n C0 590 2 dL_law_590 rfl rfl ?_
  refine r_aload_n C0 591 0 dL_law_591 rfl rfl ?_
  refine r_iload_n C0 592 3 dL_law_592 rfl rfl ?_
  refine r_iconst C0 593 1 dL_law_593 (by decide) ?_
  refine r_iadd C0 594 dL_law_594 ?_
  refine r_sld CL 595 (6 * c + 1) (nI_add (6 * c) 1) (by omega) (by omega) dL_law_595 ?_
  refine r_aload_n C0 596 0 dL_law_596 rfl rfl ?_
  refine r_iload_n C0 597 3 dL_law_597 rfl rfl ?_
  refine r_iconst C0 598 2 dL_law_598 (by decide) ?_
  refine r_iadd C0 599 dL_law_599 ?_
  refine r_sld CL 600 (6 * c + 2) (nI_add (6 * c) 2) (by omega) (by omega) dL_law_600 ?_
  refine l_callM (As := [.int _, .int _]) C0 601 2 (k5_about XC_ok ci.2.2.2.2.1.1.2 ci.2.2.2.2.1.1.1 _ _) (rm5_about (Nat.le_of_ble_eq_true rfl) (Nat.le_of_ble_eq_true rfl) (by show _ ≤ 600000; omega) (by show _ ≤ 7302250; omega)) mlL_78 im5_about se5_about rfl (Nat.le_of_ble_eq_true rfl) dL_law_601 ?_
  rintro _ _ ⟨rfl, rfl⟩
  refine r_icmp_eq C0 604 777 dL_law_604 (by decide) (fun c_604 => ?_) (fun c_604 => ?_)
  · exact r_widen C0 (k + 360) (n + 7560) (by omega) (by omega) (K S v w E Q W P O now M T ci cp iv (by omega) (by omega))
  · exact absurd rfl c_604
set_option maxRecDepth 100000 in
theorem law_15 (CL : CxL D ar (XC tg te mi) b L xs j) (hL : L ≤ 3072) (hc : 6 * c + 6 ≤ L) (ci : CI te a v w E Q W P O S M T) (cp : CapOK v) (iv : Iv M E now) (hE : E ≤ c) (hn : now ≤ 40 * c) (hk : k + 360 ≤ 600000) (hs : n + 7560 ≤ 7302250) (K : LK j te a ar h1 ad b c k n) : j (cW ar S ++ mW ar h1 ad M T) k n 609 [(0, .ref b), (1, .ref (a 0)), (2, .ref h1), (3, .int (nI (6 * c)))] [] := by
  have C0 := CL.to
  have hE6 : E < 600 := by omega
  have hE0 : E ≤ 600 := by omega
  have hnb : now + 40 ≤ 30000 := by omega
  have hO6 := ci.2.2.2.2.1.1.1
  have hP6 := ci.2.2.2.1.1.1
  have oro : OrOK M O := by
    have h9 := iv.2.2.2.1
    rw [ci.2.2.2.2.1.1.2, nI_clamp (by omega)] at h9
    exact h9
  have pko : PkOK M P := by
    have h9 := iv.1.2.2.2.2.1
    rw [ci.2.2.2.1.1.2, nI_clamp (by omega)] at h9
    exact h9
  refine r_aload_n C0 609 1 dL_law_609 rfl rfl ?_
  refine r_aload_n C0 610 0 dL_law_610 rfl rfl ?_
  refine r_iload_n C0 611 3 dL_law_611 rfl rfl ?_
  refine r_iconst C0 612 1 dL_law_612 (by decide) ?_
  refine r_iadd C0 613 dL_law_613 ?_
  refine r_sld CL 614 (6 * c + 1) (nI_add (6 * c) 1) (by omega) (by omega) dL_law_614 ?_
  refine r_aload_n C0 615 0 dL_law_615 rfl rfl ?_
  refine r_iload_n C0 616 3 dL_law_616 rfl rfl ?_
  refine r_iconst C0 617 2 dL_law_617 (by decide) ?_
  refine r_iadd C0 618 dL_law_618 ?_
  refine r_sld CL 619 (6 * c + 2) (nI_add (6 * c) 2) (by omega) (by omega) dL_law_619 ?_
  refine r_if_eq C0 620 627 dL_law_620 (by decide) (fun c_620 => ?_) (fun c_620 => ?_)
  · refine r_iconst C0 627 0 dL_law_627 (by decide) ?_
    refine l_callC (As := [.int _, .int _]) C0 628 2 (k_X4_doubt ci pko _ _) (rm_X4_doubt (Nat.le_of_ble_eq_true rfl) (Nat.le_of_ble_eq_true rfl) (by show _ ≤ 600000; omega) (by show _ ≤ 7302250; omega)) mlL_79 im_X4_doubt se_X4_doubt ci.1.1 rfl (Nat.le_of_ble_eq_true rfl) dL_law_628 ?_
    rintro _ _ ⟨rfl, S2, rfl, c2⟩
    refine r_aload_n C0 631 2 dL_law_631 rfl rfl ?_
    refine r_aload_n C0 632 0 dL_law_632 rfl rfl ?_
    refine r_iload_n C0 633 3 dL_law_633 rfl rfl ?_
    refine r_iconst C0 634 1 dL_law_634 (by decide) ?_
    refine r_iadd C0 635 dL_law_635 ?_
    refine r_sld CL 636 (6 * c + 1) (nI_add (6 * c) 1) (by omega) (by omega) dL_law_636 ?_
    refine r_aload_n C0 637 0 dL_law_637 rfl rfl ?_
    refine r_iload_n C0 638 3 dL_law_638 rfl rfl ?_
    refine r_iconst C0 639 2 dL_law_639 (by decide) ?_
    refine r_iadd C0 640 dL_law_640 ?_
    refine r_sld CL 641 (6 * c + 2) (nI_add (6 * c) 2) (by omega) (by omega) dL_law_641 ?_
    refine r_if_eq C0 642 649 dL_law_642 (by decide) (fun c_642 => ?_) (fun c_642 => ?_)
    · refine r_iconst C0 649 0 dL_law_649 (by decide) ?_
      refine l_callM (As := [.int _, .int _]) C0 650 2 (k5_doubt XC_ok ci.2.2.2.1.1.2 ci.2.2.2.1.1.1 _ _) (rm5_doubt (Nat.le_of_ble_eq_true rfl) (Nat.le_of_ble_eq_true rfl) (by show _ ≤ 600000; omega) (by show _ ≤ 7302250; omega)) mlL_82 im5_doubt se5_doubt rfl (Nat.le_of_ble_eq_true rfl) dL_law_650 ?_
      rintro _ _ ⟨rfl, rfl⟩
      refine r_icmp_eq C0 653 777 dL_law_653 (by decide) (fun c_653 => ?_) (fun c_653 => ?_)
      · exact r_widen C0 (k + 360) (n + 7560) (by omega) (by omega) (K S2 v w E Q W P O now _ T c2 cp (iv.doubt ci.2.2.2.1.1.2 ci.2.2.2.1.1.1 _ _) (by omega) (by omega))
      · exact absurd rfl c_653
    · exact absurd c_620 c_642
  · refine r_iconst C0 623 1 dL_law_623 (by decide) ?_
    refine r_goto C0 624 628 dL_law_624 (by decide) ?_
    refine l_callC (As := [.int _, .int _]) C0 628 2 (k_X4_doubt ci pko _ _) (rm_X4_doubt (Nat.le_of_ble_eq_true rfl) (Nat.le_of_ble_eq_true rfl) (by show _ ≤ 600000; omega) (by show _ ≤ 7302250; omega)) mlL_79 im_X4_doubt se_X4_doubt ci.1.1 rfl (Nat.le_of_ble_eq_true rfl) dL_law_628 ?_
    rintro _ _ ⟨rfl, S2, rfl, c2⟩
    refine r_aload_n C0 631 2 dL_law_631 rfl rfl ?_
    refine r_aload_n C0 632 0 dL_law_632 rfl rfl ?_
    refine r_iload_n C0 633 3 dL_law_633 rfl rfl ?_
    refine r_iconst C0 634 1 dL_law_634 (by decide) ?_
    refine r_iadd C0 635 dL_law_635 ?_
    refine r_sld CL 636 (6 * c + 1) (nI_add (6 * c) 1) (by omega) (by omega) dL_law_636 ?_
    refine r_aload_n C0 637 0 dL_law_637 rfl rfl ?_
    refine r_iload_n C0 638 3 dL_law_638 rfl rfl ?_
    refine r_iconst C0 639 2 dL_law_639 (by decide) ?_
    refine r_iadd C0 640 dL_law_640 ?_
    refine r_sld CL 641 (6 * c + 2) (nI_add (6 * c) 2) (by omega) (by omega) dL_law_641 ?_
    refine r_if_eq C0 642 649 dL_law_642 (by decide) (fun c_642 => ?_) (fun c_642 => ?_)
    · exact absurd c_642 c_620
    · refine r_iconst C0 645 1 dL_law_645 (by decide) ?_
      refine r_goto C0 646 650 dL_law_646 (by decide) ?_
      refine l_callM (As := [.int _, .int _]) C0 650 2 (k5_doubt XC_ok ci.2.2.2.1.1.2 ci.2.2.2.1.1.1 _ _) (rm5_doubt (Nat.le_of_ble_eq_true rfl) (Nat.le_of_ble_eq_true rfl) (by show _ ≤ 600000; omega) (by show _ ≤ 7302250; omega)) mlL_82 im5_doubt se5_doubt rfl (Nat.le_of_ble_eq_true rfl) dL_law_650 ?_
      rintro _ _ ⟨rfl, rfl⟩
      refine r_icmp_eq C0 653 777 dL_law_653 (by decide) (fun c_653 => ?_) (fun c_653 => ?_)
      · exact r_widen C0 (k + 360) (n + 7560) (by omega) (by omega) (K S2 v w E Q W P O now _ T c2 cp (iv.doubt ci.2.2.2.1.1.2 ci.2.2.2.1.1.1 _ _) (by omega) (by omega))
      · exact absurd rfl c_653
set_option maxRecDepth 100000 in
theorem law_16 (CL : CxL D ar (XC tg te mi) b L xs j) (hL : L ≤ 3072) (hc : 6 * c + 6 ≤ L) (ci : CI te a v w E Q W P O S M T) (cp : CapOK v) (iv : Iv M E now) (hE : E ≤ c) (hn : now ≤ 40 * c) (hk : k + 360 ≤ 600000) (hs : n + 7560 ≤ 7302250) (K : LK j te a ar h1 ad b c k n) : j (cW ar S ++ mW ar h1 ad M T) k n 658 [(0, .ref b), (1, .ref (a 0)), (2, .ref h1), (3, .int (nI (6 * c)))] [] := by
  have C0 := CL.to
  have hE6 : E < 600 := by omega
  have hE0 : E ≤ 600 := by omega
  have hnb : now + 40 ≤ 30000 := by omega
  have hO6 := ci.2.2.2.2.1.1.1
  have hP6 := ci.2.2.2.1.1.1
  have oro : OrOK M O := by
    have h9 := iv.2.2.2.1
    rw [ci.2.2.2.2.1.1.2, nI_clamp (by omega)] at h9
    exact h9
  have pko : PkOK M P := by
    have h9 := iv.1.2.2.2.2.1
    rw [ci.2.2.2.1.1.2, nI_clamp (by omega)] at h9
    exact h9
  refine r_aload_n C0 658 1 dL_law_658 rfl rfl ?_
  refine r_aload_n C0 659 0 dL_law_659 rfl rfl ?_
  refine r_iload_n C0 660 3 dL_law_660 rfl rfl ?_
  refine r_iconst C0 661 1 dL_law_661 (by decide) ?_
  refine r_iadd C0 662 dL_law_662 ?_
  refine r_sld CL 663 (6 * c + 1) (nI_add (6 * c) 1) (by omega) (by omega) dL_law_663 ?_
  refine r_aload_n C0 664 0 dL_law_664 rfl rfl ?_
  refine r_iload_n C0 665 3 dL_law_665 rfl rfl ?_
  refine r_iconst C0 666 2 dL_law_666 (by decide) ?_
  refine r_iadd C0 667 dL_law_667 ?_
  refine r_sld CL 668 (6 * c + 2) (nI_add (6 * c) 2) (by omega) (by omega) dL_law_668 ?_
  refine r_aload_n C0 669 0 dL_law_669 rfl rfl ?_
  refine r_iload_n C0 670 3 dL_law_670 rfl rfl ?_
  refine r_iconst C0 671 3 dL_law_671 (by decide) ?_
  refine r_iadd C0 672 dL_law_672 ?_
  refine r_sld CL 673 (6 * c + 3) (nI_add (6 * c) 3) (by omega) (by omega) dL_law_673 ?_
  refine r_if_eq C0 674 681 dL_law_674 (by decide) (fun c_674 => ?_) (fun c_674 => ?_)
  · refine r_iconst C0 681 0 dL_law_681 (by decide) ?_
    refine l_callC (As := [.int _, .int _, .int _]) C0 682 3 (k_X4_hours ci pko _ _ _) (rm_X4_hours (Nat.le_of_ble_eq_true rfl) (Nat.le_of_ble_eq_true rfl) (by show _ ≤ 600000; omega) (by show _ ≤ 7302250; omega)) mlL_83 im_X4_hours se_X4_hours ci.1.1 rfl (Nat.le_of_ble_eq_true rfl) dL_law_682 ?_
    rintro _ _ ⟨rfl, S2, rfl, c2⟩
    refine r_aload_n C0 685 2 dL_law_685 rfl rfl ?_
    refine r_aload_n C0 686 0 dL_law_686 rfl rfl ?_
    refine r_iload_n C0 687 3 dL_law_687 rfl rfl ?_
    refine r_iconst C0 688 1 dL_law_688 (by decide) ?_
    refine r_iadd C0 689 dL_law_689 ?_
    refine r_sld CL 690 (6 * c + 1) (nI_add (6 * c) 1) (by omega) (by omega) dL_law_690 ?_
    refine r_aload_n C0 691 0 dL_law_691 rfl rfl ?_
    refine r_iload_n C0 692 3 dL_law_692 rfl rfl ?_
    refine r_iconst C0 693 2 dL_law_693 (by decide) ?_
    refine r_iadd C0 694 dL_law_694 ?_
    refine r_sld CL 695 (6 * c + 2) (nI_add (6 * c) 2) (by omega) (by omega) dL_law_695 ?_
    refine r_aload_n C0 696 0 dL_law_696 rfl rfl ?_
    refine r_iload_n C0 697 3 dL_law_697 rfl rfl ?_
    refine r_iconst C0 698 3 dL_law_698 (by decide) ?_
    refine r_iadd C0 699 dL_law_699 ?_
    refine r_sld CL 700 (6 * c + 3) (nI_add (6 * c) 3) (by omega) (by omega) dL_law_700 ?_
    refine r_if_eq C0 701 708 dL_law_701 (by decide) (fun c_701 => ?_) (fun c_701 => ?_)
    · refine r_iconst C0 708 0 dL_law_708 (by decide) ?_
      refine l_callM (As := [.int _, .int _, .int _]) C0 709 3 (k5_hours XC_ok ci.2.2.2.1.1.2 ci.2.2.2.1.1.1 _ _ _) (rm5_hours (Nat.le_of_ble_eq_true rfl) (Nat.le_of_ble_eq_true rfl) (by show _ ≤ 600000; omega) (by show _ ≤ 7302250; omega)) mlL_87 im5_hours se5_hours rfl (Nat.le_of_ble_eq_true rfl) dL_law_709 ?_
      rintro _ _ ⟨rfl, rfl⟩
      refine r_icmp_eq C0 712 777 dL_law_712 (by decide) (fun c_712 => ?_) (fun c_712 => ?_)
      · exact r_widen C0 (k + 360) (n + 7560) (by omega) (by omega) (K S2 v w E Q W P O now _ T c2 cp (iv.hours ci.2.2.2.1.1.2 ci.2.2.2.1.1.1 _ _ _) (by omega) (by omega))
      · exact absurd rfl c_712
    · exact absurd c_674 c_701
  · refine r_iconst C0 677 1 dL_law_677 (by decide) ?_
    refine r_goto C0 678 682 dL_law_678 (by decide) ?_
    refine l_callC (As := [.int _, .int _, .int _]) C0 682 3 (k_X4_hours ci pko _ _ _) (rm_X4_hours (Nat.le_of_ble_eq_true rfl) (Nat.le_of_ble_eq_true rfl) (by show _ ≤ 600000; omega) (by show _ ≤ 7302250; omega)) mlL_83 im_X4_hours se_X4_hours ci.1.1 rfl (Nat.le_of_ble_eq_true rfl) dL_law_682 ?_
    rintro _ _ ⟨rfl, S2, rfl, c2⟩
    refine r_aload_n C0 685 2 dL_law_685 rfl rfl ?_
    refine r_aload_n C0 686 0 dL_law_686 rfl rfl ?_
    refine r_iload_n C0 687 3 dL_law_687 rfl rfl ?_
    refine r_iconst C0 688 1 dL_law_688 (by decide) ?_
    refine r_iadd C0 689 dL_law_689 ?_
    refine r_sld CL 690 (6 * c + 1) (nI_add (6 * c) 1) (by omega) (by omega) dL_law_690 ?_
    refine r_aload_n C0 691 0 dL_law_691 rfl rfl ?_
    refine r_iload_n C0 692 3 dL_law_692 rfl rfl ?_
    refine r_iconst C0 693 2 dL_law_693 (by decide) ?_
    refine r_iadd C0 694 dL_law_694 ?_
    refine r_sld CL 695 (6 * c + 2) (nI_add (6 * c) 2) (by omega) (by omega) dL_law_695 ?_
    refine r_aload_n C0 696 0 dL_law_696 rfl rfl ?_
    refine r_iload_n C0 697 3 dL_law_697 rfl rfl ?_
    refine r_iconst C0 698 3 dL_law_698 (by decide) ?_
    refine r_iadd C0 699 dL_law_699 ?_
    refine r_sld CL 700 (6 * c + 3) (nI_add (6 * c) 3) (by omega) (by omega) dL_law_700 ?_
    refine r_if_eq C0 701 708 dL_law_701 (by decide) (fun c_701 => ?_) (fun c_701 => ?_)
    · exact absurd c_701 c_674
    · refine r_iconst C0 704 1 dL_law_704 (by decide) ?_
      refine r_goto C0 705 709 dL_law_705 (by decide) ?_
      refine l_callM (As := [.int _, .int _, .int _]) C0 709 3 (k5_hours XC_ok ci.2.2.2.1.1.2 ci.2.2.2.1.1.1 _ _ _) (rm5_hours (Nat.le_of_ble_eq_true rfl) (Nat.le_of_ble_eq_true rfl) (by show _ ≤ 600000; omega) (by show _ ≤ 7302250; omega)) mlL_87 im5_hours se5_hours rfl (Nat.le_of_ble_eq_true rfl) dL_law_709 ?_
      rintro _ _ ⟨rfl, rfl⟩
      refine r_icmp_eq C0 712 777 dL_law_712 (by decide) (fun c_712 => ?_) (fun c_712 => ?_)
      · exact r_widen C0 (k + 360) (n + 7560) (by omega) (by omega) (K S2 v w E Q W P O now _ T c2 cp (iv.hours ci.2.2.2.1.1.2 ci.2.2.2.1.1.1 _ _ _) (by omega) (by omega))
      · exact absurd rfl c_712
set_option maxRecDepth 100000 in
theorem law_17 (CL : CxL D ar (XC tg te mi) b L xs j) (hL : L ≤ 3072) (hc : 6 * c + 6 ≤ L) (ci : CI te a v w E Q W P O S M T) (cp : CapOK v) (iv : Iv M E now) (hE : E ≤ c) (hn : now ≤ 40 * c) (hk : k + 360 ≤ 600000) (hs : n + 7560 ≤ 7302250) (K : LK j te a ar h1 ad b c k n) : j (cW ar S ++ mW ar h1 ad M T) k n 717 [(0, .ref b), (1, .ref (a 0)), (2, .ref h1), (3, .int (nI (6 * c)))] [] := by
  have C0 := CL.to
  have hE6 : E < 600 := by omega
  have hE0 : E ≤ 600 := by omega
  have hnb : now + 40 ≤ 30000 := by omega
  have hO6 := ci.2.2.2.2.1.1.1
  have hP6 := ci.2.2.2.1.1.1
  have oro : OrOK M O := by
    have h9 := iv.2.2.2.1
    rw [ci.2.2.2.2.1.1.2, nI_clamp (by omega)] at h9
    exact h9
  have pko : PkOK M P := by
    have h9 := iv.1.2.2.2.2.1
    rw [ci.2.2.2.1.1.2, nI_clamp (by omega)] at h9
    exact h9
  refine r_aload_n C0 717 1 dL_law_717 rfl rfl ?_
  refine r_aload_n C0 718 0 dL_law_718 rfl rfl ?_
  refine r_iload_n C0 719 3 dL_law_719 rfl rfl ?_
  refine r_iconst C0 720 1 dL_law_720 (by decide) ?_
  refine r_iadd C0 721 dL_law_721 ?_
  refine r_sld CL 722 (6 * c + 1) (nI_add (6 * c) 1) (by omega) (by omega) dL_law_722 ?_
  refine l_callC (As := [.int _]) C0 723 1 (k_X4_clear ci _) (rm_X4_clear (Nat.le_of_ble_eq_true rfl) (Nat.le_of_ble_eq_true rfl) (by show _ ≤ 600000; omega) (by show _ ≤ 7302250; omega)) mlL_88 im_X4_clear se_X4_clear ci.1.1 rfl (Nat.le_of_ble_eq_true rfl) dL_law_723 ?_
  rintro _ _ ⟨rfl, S2, rfl, c2⟩
  refine r_aload_n C0 726 2 dL_law_726 rfl rfl ?_
  refine r_aload_n C0 727 0 dL_law_727 rfl rfl ?_
  refine r_iload_n C0 728 3 dL_law_728 rfl rfl ?_
  refine r_iconst C0 729 1 dL_law_729 (by decide) ?_
  refine r_iadd C0 730 dL_law_730 ?_
  refine r_sld CL 731 (6 * c + 1) (nI_add (6 * c) 1) (by omega) (by omega) dL_law_731 ?_
  refine l_callM (As := [.int _]) C0 732 1 (k5_clear XC_ok ci.2.2.2.1.1.2 ci.2.2.2.1.1.1 _) (rm5_clear (Nat.le_of_ble_eq_true rfl) (Nat.le_of_ble_eq_true rfl) (by show _ ≤ 600000; omega) (by show _ ≤ 7302250; omega)) mlL_91 im5_clear se5_clear rfl (Nat.le_of_ble_eq_true rfl) dL_law_732 ?_
  rintro _ _ ⟨rfl, rfl⟩
  refine r_icmp_eq C0 735 777 dL_law_735 (by decide) (fun c_735 => ?_) (fun c_735 => ?_)
  · exact r_widen C0 (k + 360) (n + 7560) (by omega) (by omega) (K S2 v w E Q W P O now _ T c2 cp (iv.clear _) (by omega) (by omega))
  · exact absurd rfl c_735
set_option maxRecDepth 100000 in
theorem law_18 (CL : CxL D ar (XC tg te mi) b L xs j) (hL : L ≤ 3072) (hc : 6 * c + 6 ≤ L) (ci : CI te a v w E Q W P O S M T) (cp : CapOK v) (iv : Iv M E now) (hE : E ≤ c) (hn : now ≤ 40 * c) (hk : k + 360 ≤ 600000) (hs : n + 7560 ≤ 7302250) (K : LK j te a ar h1 ad b c k n) : j (cW ar S ++ mW ar h1 ad M T) k n 740 [(0, .ref b), (1, .ref (a 0)), (2, .ref h1), (3, .int (nI (6 * c)))] [] := by
  have C0 := CL.to
  have hE6 : E < 600 := by omega
  have hE0 : E ≤ 600 := by omega
  have hnb : now + 40 ≤ 30000 := by omega
  have hO6 := ci.2.2.2.2.1.1.1
  have hP6 := ci.2.2.2.1.1.1
  have oro : OrOK M O := by
    have h9 := iv.2.2.2.1
    rw [ci.2.2.2.2.1.1.2, nI_clamp (by omega)] at h9
    exact h9
  have pko : PkOK M P := by
    have h9 := iv.1.2.2.2.2.1
    rw [ci.2.2.2.1.1.2, nI_clamp (by omega)] at h9
    exact h9
  refine r_aload_n C0 740 1 dL_law_740 rfl rfl ?_
  refine r_aload_n C0 741 0 dL_law_741 rfl rfl ?_
  refine r_iload_n C0 742 3 dL_law_742 rfl rfl ?_
  refine r_iconst C0 743 1 dL_law_743 (by decide) ?_
  refine r_iadd C0 744 dL_law_744 ?_
  refine r_sld CL 745 (6 * c + 1) (nI_add (6 * c) 1) (by omega) (by omega) dL_law_745 ?_
  refine l_callC (As := [.int _]) C0 746 1 (k_X4_told ci.1 ci.2.2.2.1 ci.2.2.2.2.2.2.2.2.1 ci.2.2.2.2.1 _) (rm_X4_told (Nat.le_of_ble_eq_true rfl) (Nat.le_of_ble_eq_true rfl) (by show _ ≤ 600000; omega) (by show _ ≤ 7302250; omega)) mlL_92 im_X4_told se_X4_told ci.1.1 rfl (Nat.le_of_ble_eq_true rfl) dL_law_746 ?_
  rintro _ _ ⟨rfl, rfl⟩
  refine r_aload_n C0 749 2 dL_law_749 rfl rfl ?_
  refine r_aload_n C0 750 0 dL_law_750 rfl rfl ?_
  refine r_iload_n C0 751 3 dL_law_751 rfl rfl ?_
  refine r_iconst C0 752 1 dL_law_752 (by decide) ?_
  refine r_iadd C0 753 dL_law_753 ?_
  refine r_sld CL 754 (6 * c + 1) (nI_add (6 * c) 1) (by omega) (by omega) dL_law_754 ?_
  refine l_callM (As := [.int _]) C0 755 1 (k5_told XC_ok ci.2.2.2.1.1.2 ci.2.2.2.1.1.1 _) (rm5_told (Nat.le_of_ble_eq_true rfl) (Nat.le_of_ble_eq_true rfl) (by show _ ≤ 600000; omega) (by show _ ≤ 7302250; omega)) mlL_95 im5_told se5_told rfl (Nat.le_of_ble_eq_true rfl) dL_law_755 ?_
  rintro _ _ ⟨rfl, rfl⟩
  refine r_icmp_eq C0 758 777 dL_law_758 (by decide) (fun c_758 => ?_) (fun c_758 => ?_)
  · exact r_widen C0 (k + 360) (n + 7560) (by omega) (by omega) (K S v w E Q W P O now M T ci cp iv (by omega) (by omega))
  · exact absurd rfl c_758
set_option maxRecDepth 100000 in
theorem law_19 (CL : CxL D ar (XC tg te mi) b L xs j) (hL : L ≤ 3072) (hc : 6 * c + 6 ≤ L) (ci : CI te a v w E Q W P O S M T) (cp : CapOK v) (iv : Iv M E now) (hE : E ≤ c) (hn : now ≤ 40 * c) (hk : k + 360 ≤ 600000) (hs : n + 7560 ≤ 7302250) (K : LK j te a ar h1 ad b c k n) : j (cW ar S ++ mW ar h1 ad M T) k n 763 [(0, .ref b), (1, .ref (a 0)), (2, .ref h1), (3, .int (nI (6 * c)))] [] := by
  have C0 := CL.to
  have hE6 : E < 600 := by omega
  have hE0 : E ≤ 600 := by omega
  have hnb : now + 40 ≤ 30000 := by omega
  have hO6 := ci.2.2.2.2.1.1.1
  have hP6 := ci.2.2.2.1.1.1
  have oro : OrOK M O := by
    have h9 := iv.2.2.2.1
    rw [ci.2.2.2.2.1.1.2, nI_clamp (by omega)] at h9
    exact h9
  have pko : PkOK M P := by
    have h9 := iv.1.2.2.2.2.1
    rw [ci.2.2.2.1.1.2, nI_clamp (by omega)] at h9
    exact h9
  refine r_aload_n C0 763 1 dL_law_763 rfl rfl ?_
  refine l_callC (As := []) C0 764 0 (k_X4_trace ci.1) (rm_X4_trace (Nat.le_of_ble_eq_true rfl) (Nat.le_of_ble_eq_true rfl) (by show _ ≤ 600000; omega) (by show _ ≤ 7302250; omega)) mlL_96 im_X4_trace se_X4_trace ci.1.1 rfl (Nat.le_of_ble_eq_true rfl) dL_law_764 ?_
  rintro _ _ ⟨rfl, rfl⟩
  refine r_aload_n C0 767 2 dL_law_767 rfl rfl ?_
  refine l_callM (As := []) C0 768 0 (k5_trace XC_ok) (rm5_trace (Nat.le_of_ble_eq_true rfl) (Nat.le_of_ble_eq_true rfl) (by show _ ≤ 600000; omega) (by show _ ≤ 7302250; omega)) mlL_100 im5_trace se5_trace rfl (Nat.le_of_ble_eq_true rfl) dL_law_768 ?_
  rintro _ _ ⟨rfl, rfl⟩
  refine r_lcmp C0 771 dL_law_771 ?_
  refine r_if_eq C0 772 777 dL_law_772 (by decide) (fun c_772 => ?_) (fun c_772 => ?_)
  · exact r_widen C0 (k + 360) (n + 7560) (by omega) (by omega) (K S v w E Q W P O now M T ci cp iv (by omega) (by omega))
  · exact absurd (lcmp_0 T) c_772
end C45
