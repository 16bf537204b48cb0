set_option maxRecDepth 100000 in
set_option maxHeartbeats 4000000 in
theorem lawc_0 {tS : jTS} {b L : Nat} {xs : Nat → Int32} (hs9 : tS.2 = some (b, L, xs)) (V : jH) (ax am : Nat) (i : Int32) (G N : Nat) {Q : Option Value → jH → Prop} (hW : WT V) (hx : jis V (.inr 4) ax) (hm : jis V (.inr 5) am) (hg : jphi V ax G) (hc : jTC V ax am) (hin1 : vp_in (i + 1) L) (hin2 : vp_in (i + 2) L) (hin3 : vp_in (i + 3) L) (kk : ∀ (V2 : jH) (G2 : Nat), WT V2 → jis V2 (.inr 4) ax → jis V2 (.inr 5) am → jphi V2 ax G2 → jTC V2 ax am → G2 ≤ G → J tS mL_law 1000 908 [some (.ref b), some (.ref ax), some (.ref am), some (.int i)] [] V2 (5 * N + 8 * G2) (491 * N + 20013 * G2) Q) : J tS mL_law 1000 144 [some (.ref b), some (.ref ax), some (.ref am), some (.int i)] [] V (5 * (N + 1) + 8 * G) (491 * (N + 1) + 20013 * G) Q := by
  refine J_aload_n dL_law_144 rfl ?_
  refine J_aload_n dL_law_145 rfl ?_
  refine J_iload_n dL_law_146 rfl ?_
  refine J_iconst (v := 1) dL_law_147 (by decide) ?_
  refine J_iadd dL_law_148 ?_
  refine J_sld hs9 dL_law_149 hin1 ?_
  have K : ∀ (V2 : jH) (G2 : Nat) (y1 : Int32), WT V2 → jis V2 (.inr 4) ax → jis V2 (.inr 5) am → jphi V2 ax G2 → jTC V2 ax am → G2 ≤ G → J tS mL_law 1000 153 [some (.ref b), some (.ref ax), some (.ref am), some (.int i)] [.int y1] V2 (5 * N + 8 * G2) (491 * N + 20013 * G2) Q := by
    intro V2 G2 y1 hW hx hm hg hc hG2
    refine J_pop dL_law_153 rfl ?_
    refine J_aload_n dL_law_154 rfl ?_
    refine J_aload_n dL_law_155 rfl ?_
    refine J_iload_n dL_law_156 rfl ?_
    refine J_iconst (v := 1) dL_law_157 (by decide) ?_
    refine J_iadd dL_law_158 ?_
    refine J_sld hs9 dL_law_159 hin1 ?_
    obtain ⟨fm, hOm, hKm⟩ := WT_obj hW id hm
    obtain ⟨w0, hF0m, v0, rfl, -, -⟩ := hKm.2 0 (.inl (0, 16)) rfl
    refine Jw_callV1 (q9 := (RX7, TX7, 34)) moX7_walk jw_ml_L_17 jw_im_X7_walk jw_se_X7_walk hm rfl rfl dL_law_160 (w_X7_walk 999 _ am (xs (i + 1).toNatClampNeg) v0 (by decide) hW hm ⟨_, hOm, hF0m⟩) (by decide) (Nat.zero_le _) (Nat.zero_le _) (Nat.le_of_ble_eq_true rfl) (fun r V3 h => ?_)
    obtain ⟨⟨hW, he, y2, rfl, hy2⟩, -⟩ := h
    have hx := hx.mono he.1
    have hm := hm.mono he.1
    have hg := hg.keep he (jnot_of rfl) (jnot_of rfl)
    have hc := hc.keep he (jdis_of rfl)
    refine J_pop dL_law_163 rfl ?_
    refine J_goto (tgt := 908) dL_law_164 (by decide) ?_
    exact J.less (kc' := 5 * N + 8 * G2) (ks' := 491 * N + 20013 * G2) (by omega) (by omega) (kk _ G2 hW hx hm hg hc hG2)
  obtain ⟨fs, hO, hK⟩ := WT_obj hW id hx
  obtain ⟨w0, hF0, md, rfl, hmd⟩ := hK.2 0 (.inr (some (.inl 4))) rfl
  obtain ⟨w1, hF1, k9, rfl, hk0, hk1⟩ := hK.2 1 (.inl (0, 16)) rfl
  dsimp only at hk0 hk1
  obtain ⟨n9, f9, hA9, -, hM9, -⟩ := WT_arrR hW id rfl hmd
  obtain rfl := hM9 16 rfl
  by_cases cG : 0 ≤ (xs (i + 1).toNatClampNeg).toInt ∧ (xs (i + 1).toNatClampNeg).toInt ≤ 3
  rotate_left
  · refine Jw_callV1 (q9 := (RX6, TX6, 7)) moX6_walk jw_ml_L_13 jw_im_X6_walk jw_se_X6_walk hx rfl rfl dL_law_150 (w_X6_walk_zbad 999 _ ax (xs (i + 1).toNatClampNeg) (by decide) hW hx cG) (by decide) (Nat.zero_le _) (Nat.zero_le _) (Nat.le_of_ble_eq_true rfl) (fun r V3 h => ?_)
    obtain ⟨⟨y1, rfl, -, -, -⟩, hE⟩ := h
    have hE := hE.symm
    subst hE
    exact J.less (kc' := 5 * N + 8 * (G)) (ks' := 491 * N + 20013 * (G)) (by omega) (by omega) (K _ (G) _ hW hx hm hg hc (Nat.le_refl _))
  by_cases cF : k9.toInt = 16
  · refine Jw_callV1 (q9 := (RX6, TX6, 7)) moX6_walk jw_ml_L_13 jw_im_X6_walk jw_se_X6_walk hx rfl rfl dL_law_150 (w_X6_walk_zold 999 _ ax (xs (i + 1).toNatClampNeg) k9 (by decide) hW hx ⟨_, hO, hF1⟩ cF) (by decide) (Nat.zero_le _) (Nat.zero_le _) (Nat.le_of_ble_eq_true rfl) (fun r V3 h => ?_)
    obtain ⟨⟨y1, rfl, -, -, -⟩, hE⟩ := h
    have hE := hE.symm
    subst hE
    exact J.less (kc' := 5 * N + 8 * (G)) (ks' := 491 * N + 20013 * (G)) (by omega) (by omega) (K _ (G) _ hW hx hm hg hc (Nat.le_refl _))
  refine Jw_callV1 (q9 := (RX6, TX6, 7)) moX6_walk jw_ml_L_13 jw_im_X6_walk jw_se_X6_walk hx rfl rfl dL_law_150 (w_X6_walk_zgo 999 _ ax (xs (i + 1).toNatClampNeg) k9 md f9 (by decide) hW hx ⟨_, hO, hF1⟩ ⟨_, hO, hF0⟩ hA9 hk0 (by omega) cG.1 cG.2) (by decide) (by omega) (by omega) (Nat.le_of_ble_eq_true rfl) (fun r V3 h => ?_)
  obtain ⟨⟨hW2, he, y1, rfl, -⟩, -⟩ := h
  exact J.less (kc' := 5 * N + 8 * (G)) (ks' := 491 * N + 20013 * (G)) (by omega) (by omega) (K _ (G) _ hW2 (hx.mono he.1) (hm.mono he.1) (hg.keep he (jnot_of rfl) (jnot_of rfl)) (hc.keep he (jdis_of rfl)) (Nat.le_refl _))
set_option maxRecDepth 100000 in
set_option maxHeartbeats 4000000 in
theorem lawc_1 {tS : jTS} {b L : Nat} {xs : Nat → Int32} (hs9 : tS.2 = some (b, L, xs)) (V : jH) (ax am : Nat) (i : Int32) (G N : Nat) {Q : Option Value → jH → Prop} (hW : WT V) (hx : jis V (.inr 4) ax) (hm : jis V (.inr 5) am) (hg : jphi V ax G) (hc : jTC V ax am) (hin1 : vp_in (i + 1) L) (hin2 : vp_in (i + 2) L) (hin3 : vp_in (i + 3) L) (kk : ∀ (V2 : jH) (G2 : Nat), WT V2 → jis V2 (.inr 4) ax → jis V2 (.inr 5) am → jphi V2 ax G2 → jTC V2 ax am → G2 ≤ G → J tS mL_law 1000 908 [some (.ref b), some (.ref ax), some (.ref am), some (.int i)] [] V2 (5 * N + 8 * G2) (491 * N + 20013 * G2) Q) : J tS mL_law 1000 167 [some (.ref b), some (.ref ax), some (.ref am), some (.int i)] [] V (5 * (N + 1) + 8 * G) (491 * (N + 1) + 20013 * G) Q := by
  refine J_aload_n dL_law_167 rfl ?_
  refine J_aload_n dL_law_168 rfl ?_
  refine J_iload_n dL_law_169 rfl ?_
  refine J_iconst (v := 1) dL_law_170 (by decide) ?_
  refine J_iadd dL_law_171 ?_
  refine J_sld hs9 dL_law_172 hin1 ?_
  refine J_aload_n dL_law_173 rfl ?_
  refine J_iload_n dL_law_174 rfl ?_
  refine J_iconst (v := 2) dL_law_175 (by decide) ?_
  refine J_iadd dL_law_176 ?_
  refine J_sld hs9 dL_law_177 hin2 ?_
  have K : ∀ (V2 : jH) (G2 : Nat) (y1 : Int32), WT V2 → jis V2 (.inr 4) ax → jis V2 (.inr 5) am → jphi V2 ax G2 → jTC V2 ax am → G2 ≤ G → J tS mL_law 1000 181 [some (.ref b), some (.ref ax), some (.ref am), some (.int i)] [.int y1] V2 (5 * N + 8 * G2) (491 * N + 20013 * G2) Q := by
    intro V2 G2 y1 hW hx hm hg hc hG2
    refine J_pop dL_law_181 rfl ?_
    refine J_aload_n dL_law_182 rfl ?_
    refine J_aload_n dL_law_183 rfl ?_
    refine J_iload_n dL_law_184 rfl ?_
    refine J_iconst (v := 1) dL_law_185 (by decide) ?_
    refine J_iadd dL_law_186 ?_
    refine J_sld hs9 dL_law_187 hin1 ?_
    refine J_aload_n dL_law_188 rfl ?_
    refine J_iload_n dL_law_189 rfl ?_
    refine J_iconst (v := 2) dL_law_190 (by decide) ?_
    refine J_iadd dL_law_191 ?_
    refine J_sld hs9 dL_law_192 hin2 ?_
    refine Jw_callV2 (q9 := (RX7, TX7, 34)) moX7_step jw_ml_L_22 jw_im_X7_step jw_se_X7_step hm rfl rfl dL_law_193 (w_X7_step 999 _ am (xs (i + 1).toNatClampNeg) (xs (i + 2).toNatClampNeg) (by decide) hW hm ) (by decide) (Nat.zero_le _) (Nat.zero_le _) (Nat.le_of_ble_eq_true rfl) (fun r V3 h => ?_)
    obtain ⟨⟨hW, he, y2, rfl, hy2⟩, hkp⟩ := h
    have hx := hx.mono he.1
    have hm := hm.mono he.1
    have hg := hg.keep he (jnot_of rfl) (jnot_of rfl)
    have hc := hc.keep he (jdis_of rfl)
    refine J_pop dL_law_196 rfl ?_
    refine J_goto (tgt := 908) dL_law_197 (by decide) ?_
    exact J.less (kc' := 5 * N + 8 * G2) (ks' := 491 * N + 20013 * G2) (by omega) (by omega) (kk _ G2 hW hx hm hg hc hG2)
  refine Jw_callV2 (q9 := (RX6, TX6, 7)) moX6_step jw_ml_L_18 jw_im_X6_step jw_se_X6_step hx rfl rfl dL_law_178 (w_X6_step 999 _ ax (xs (i + 1).toNatClampNeg) (xs (i + 2).toNatClampNeg) (by decide) hW hx ) (by decide) (Nat.zero_le _) (Nat.zero_le _) (Nat.le_of_ble_eq_true rfl) (fun r V3 h => ?_)
  obtain ⟨hW2, he, y1, rfl, hy1⟩ := h
  exact J.less (kc' := 5 * N + 8 * (G)) (ks' := 491 * N + 20013 * (G)) (by omega) (by omega) (K _ (G) _ hW2 (hx.mono he.1) (hm.mono he.1) (hg.keep he (jnot_of rfl) (jnot_of rfl)) (hc.keep he (jdis_of rfl)) (Nat.le_refl _))
set_option maxRecDepth 100000 in
set_option maxHeartbeats 4000000 in
theorem lawc_2 {tS : jTS} {b L : Nat} {xs : Nat → Int32} (hs9 : tS.2 = some (b, L, xs)) (V : jH) (ax am : Nat) (i : Int32) (G N : Nat) {Q : Option Value → jH → Prop} (hW : WT V) (hx : jis V (.inr 4) ax) (hm : jis V (.inr 5) am) (hg : jphi V ax G) (hc : jTC V ax am) (hin1 : vp_in (i + 1) L) (hin2 : vp_in (i + 2) L) (hin3 : vp_in (i + 3) L) (kk : ∀ (V2 : jH) (G2 : Nat), WT V2 → jis V2 (.inr 4) ax → jis V2 (.inr 5) am → jphi V2 ax G2 → jTC V2 ax am → G2 ≤ G → J tS mL_law 1000 908 [some (.ref b), some (.ref ax), some (.ref am), some (.int i)] [] V2 (5 * N + 8 * G2) (491 * N + 20013 * G2) Q) : J tS mL_law 1000 200 [some (.ref b), some (.ref ax), some (.ref am), some (.int i)] [] V (5 * (N + 1) + 8 * G) (491 * (N + 1) + 20013 * G) Q := by
  refine J_aload_n dL_law_200 rfl ?_
  refine J_aload_n dL_law_201 rfl ?_
  refine J_iload_n dL_law_202 rfl ?_
  refine J_iconst (v := 1) dL_law_203 (by decide) ?_
  refine J_iadd dL_law_204 ?_
  refine J_sld hs9 dL_law_205 hin1 ?_
  refine J_aload_n dL_law_206 rfl ?_
  refine J_iload_n dL_law_207 rfl ?_
  refine J_iconst (v := 2) dL_law_208 (by decide) ?_
  refine J_iadd dL_law_209 ?_
  refine J_sld hs9 dL_law_210 hin2 ?_
  have K : ∀ (V2 : jH) (G2 : Nat) (y1 : Int32), WT V2 → jis V2 (.inr 4) ax → jis V2 (.inr 5) am → jphi V2 ax G2 → jTC V2 ax am → G2 ≤ G → J tS mL_law 1000 214 [some (.ref b), some (.ref ax), some (.ref am), some (.int i)] [.int y1] V2 (5 * N + 8 * G2) (491 * N + 20013 * G2) Q := by
    intro V2 G2 y1 hW hx hm hg hc hG2
    refine J_pop dL_law_214 rfl ?_
    refine J_aload_n dL_law_215 rfl ?_
    refine J_aload_n dL_law_216 rfl ?_
    refine J_iload_n dL_law_217 rfl ?_
    refine J_iconst (v := 1) dL_law_218 (by decide) ?_
    refine J_iadd dL_law_219 ?_
    refine J_sld hs9 dL_law_220 hin1 ?_
    refine J_aload_n dL_law_221 rfl ?_
    refine J_iload_n dL_law_222 rfl ?_
    refine J_iconst (v := 2) dL_law_223 (by decide) ?_
    refine J_iadd dL_law_224 ?_
    refine J_sld hs9 dL_law_225 hin2 ?_
    refine Jw_callV2 (q9 := (RX7, TX7, 34)) moX7_back jw_ml_L_26 jw_im_X7_back jw_se_X7_back hm rfl rfl dL_law_226 (w_X7_back 999 _ am (xs (i + 1).toNatClampNeg) (xs (i + 2).toNatClampNeg) (by decide) hW hm ) (by decide) (Nat.zero_le _) (Nat.zero_le _) (Nat.le_of_ble_eq_true rfl) (fun r V3 h => ?_)
    obtain ⟨hW, he, y2, rfl, hy2⟩ := h
    have hx := hx.mono he.1
    have hm := hm.mono he.1
    have hg := hg.keep he (jnot_of rfl) (jnot_of rfl)
    have hc := hc.keep he (jdis_of rfl)
    refine J_pop dL_law_229 rfl ?_
    refine J_goto (tgt := 908) dL_law_230 (by decide) ?_
    exact J.less (kc' := 5 * N + 8 * G2) (ks' := 491 * N + 20013 * G2) (by omega) (by omega) (kk _ G2 hW hx hm hg hc hG2)
  refine Jw_callV2 (q9 := (RX6, TX6, 7)) moX6_back jw_ml_L_23 jw_im_X6_back jw_se_X6_back hx rfl rfl dL_law_211 (w_X6_back 999 _ ax (xs (i + 1).toNatClampNeg) (xs (i + 2).toNatClampNeg) (by decide) hW hx ) (by decide) (Nat.zero_le _) (Nat.zero_le _) (Nat.le_of_ble_eq_true rfl) (fun r V3 h => ?_)
  obtain ⟨hW2, he, y1, rfl, hy1⟩ := h
  exact J.less (kc' := 5 * N + 8 * (G)) (ks' := 491 * N + 20013 * (G)) (by omega) (by omega) (K _ (G) _ hW2 (hx.mono he.1) (hm.mono he.1) (hg.keep he (jnot_of rfl) (jnot_of rfl)) (hc.keep he (jdis_of rfl)) (Nat.le_refl _))
set_option maxRecDepth 100000 in
set_option maxHeartbeats 4000000 in
theorem lawc_3 {tS : jTS} {b L : Nat} {xs : Nat → Int32} (hs9 : tS.2 = some (b, L, xs)) (V : jH) (ax am : Nat) (i : Int32) (G N : Nat) {Q : Option Value → jH → Prop} (hW : WT V) (hx : jis V (.inr 4) ax) (hm : jis V (.inr 5) am) (hg : jphi V ax G) (hc : jTC V ax am) (hin1 : vp_in (i + 1) L) (hin2 : vp_in (i + 2) L) (hin3 : vp_in (i + 3) L) (kk : ∀ (V2 : jH) (G2 : Nat), WT V2 → jis V2 (.inr 4) ax → jis V2 (.inr 5) am → jphi V2 ax G2 → jTC V2 ax am → G2 ≤ G → J tS mL_law 1000 908 [some (.ref b), some (.ref ax), some (.ref am), some (.int i)] [] V2 (5 * N + 8 * G2) (491 * N + 20013 * G2) Q) : J tS mL_law 1000 233 [some (.ref b), some (.ref ax), some (.ref am), some (.int i)] [] V (5 * (N + 1) + 8 * G) (491 * (N + 1) + 20013 * G) Q := by
  refine J_aload_n dL_law_233 rfl ?_
  refine J_aload_n dL_law_234 rfl ?_
  refine J_iload_n dL_law_235 rfl ?_
  refine J_iconst (v := 1) dL_law_236 (by decide) ?_
  refine J_iadd dL_law_237 ?_
  refine J_sld hs9 dL_law_238 hin1 ?_
  refine J_aload_n dL_law_239 rfl ?_
  refine J_iload_n dL_law_240 rfl ?_
  refine J_iconst (v := 2) dL_law_241 (by decide) ?_
  refine J_iadd dL_law_242 ?_
  refine J_sld hs9 dL_law_243 hin2 ?_
  refine J_aload_n dL_law_244 rfl ?_
  refine J_iload_n dL_law_245 rfl ?_
  refine J_iconst (v := 3) dL_law_246 (by decide) ?_
  refine J_iadd dL_law_247 ?_
  refine J_sld hs9 dL_law_248 hin3 ?_
  have K : ∀ (V2 : jH) (G2 : Nat) (y1 : Int32), WT V2 → jis V2 (.inr 4) ax → jis V2 (.inr 5) am → jphi V2 ax G2 → jTC V2 ax am → G2 ≤ G → J tS mL_law 1000 252 [some (.ref b), some (.ref ax), some (.ref am), some (.int i)] [.int y1] V2 (5 * N + 8 * G2) (491 * N + 20013 * G2) Q := by
    intro V2 G2 y1 hW hx hm hg hc hG2
    refine J_pop dL_law_252 rfl ?_
    refine J_aload_n dL_law_253 rfl ?_
    refine J_aload_n dL_law_254 rfl ?_
    refine J_iload_n dL_law_255 rfl ?_
    refine J_iconst (v := 1) dL_law_256 (by decide) ?_
    refine J_iadd dL_law_257 ?_
    refine J_sld hs9 dL_law_258 hin1 ?_
    refine J_aload_n dL_law_259 rfl ?_
    refine J_iload_n dL_law_260 rfl ?_
    refine J_iconst (v := 2) dL_law_261 (by decide) ?_
    refine J_iadd dL_law_262 ?_
    refine J_sld hs9 dL_law_263 hin2 ?_
    refine J_aload_n dL_law_264 rfl ?_
    refine J_iload_n dL_law_265 rfl ?_
    refine J_iconst (v := 3) dL_law_266 (by decide) ?_
    refine J_iadd dL_law_267 ?_
    refine J_sld hs9 dL_law_268 hin3 ?_
    refine Jw_callV3 (q9 := (RX7, TX7, 34)) moX7_pivot jw_ml_L_31 jw_im_X7_pivot jw_se_X7_pivot hm rfl rfl dL_law_269 (w_X7_pivot 999 _ am (xs (i + 1).toNatClampNeg) (xs (i + 2).toNatClampNeg) (xs (i + 3).toNatClampNeg) (by decide) hW hm ) (by decide) (Nat.zero_le _) (Nat.zero_le _) (Nat.le_of_ble_eq_true rfl) (fun r V3 h => ?_)
    obtain ⟨⟨hW, he, y2, rfl, hy2⟩, hkp⟩ := h
    have hx := hx.mono he.1
    have hm := hm.mono he.1
    have hg := hg.keep he (jnot_of rfl) (jnot_of rfl)
    have hc := hc.keep he (jdis_of rfl)
    refine J_pop dL_law_272 rfl ?_
    refine J_goto (tgt := 908) dL_law_273 (by decide) ?_
    exact J.less (kc' := 5 * N + 8 * G2) (ks' := 491 * N + 20013 * G2) (by omega) (by omega) (kk _ G2 hW hx hm hg hc hG2)
  refine Jw_callV3 (q9 := (RX6, TX6, 7)) moX6_pivot jw_ml_L_27 jw_im_X6_pivot jw_se_X6_pivot hx rfl rfl dL_law_249 (w_X6_pivot 999 _ ax (xs (i + 1).toNatClampNeg) (xs (i + 2).toNatClampNeg) (xs (i + 3).toNatClampNeg) (by decide) hW hx ) (by decide) (Nat.zero_le _) (Nat.zero_le _) (Nat.le_of_ble_eq_true rfl) (fun r V3 h => ?_)
  obtain ⟨hW2, he, y1, rfl, hy1⟩ := h
  exact J.less (kc' := 5 * N + 8 * (G)) (ks' := 491 * N + 20013 * (G)) (by omega) (by omega) (K _ (G) _ hW2 (hx.mono he.1) (hm.mono he.1) (hg.keep he (jnot_of rfl) (jnot_of rfl)) (hc.keep he (jdis_of rfl)) (Nat.le_refl _))
set_option maxRecDepth 100000 in
set_option maxHeartbeats 4000000 in
theorem lawc_4 {tS : jTS} {b L : Nat} {xs : Nat → Int32} (hs9 : tS.2 = some (b, L, xs)) (V : jH) (ax am : Nat) (i : Int32) (G N : Nat) {Q : Option Value → jH → Prop} (hW : WT V) (hx : jis V (.inr 4) ax) (hm : jis V (.inr 5) am) (hg : jphi V ax G) (hc : jTC V ax am) (hin1 : vp_in (i + 1) L) (hin2 : vp_in (i + 2) L) (hin3 : vp_in (i + 3) L) (kk : ∀ (V2 : jH) (G2 : Nat), WT V2 → jis V2 (.inr 4) ax → jis V2 (.inr 5) am → jphi V2 ax G2 → jTC V2 ax am → G2 ≤ G → J tS mL_law 1000 908 [some (.ref b), some (.ref ax), some (.ref am), some (.int i)] [] V2 (5 * N + 8 * G2) (491 * N + 20013 * G2) Q) : J tS mL_law 1000 276 [some (.ref b), some (.ref ax), some (.ref am), some (.int i)] [] V (5 * (N + 1) + 8 * G) (491 * (N + 1) + 20013 * G) Q := by
  refine J_aload_n dL_law_276 rfl ?_
  refine J_aload_n dL_law_277 rfl ?_
  refine J_iload_n dL_law_278 rfl ?_
  refine J_iconst (v := 1) dL_law_279 (by decide) ?_
  refine J_iadd dL_law_280 ?_
  refine J_sld hs9 dL_law_281 hin1 ?_
  refine J_aload_n dL_law_282 rfl ?_
  refine J_iload_n dL_law_283 rfl ?_
  refine J_iconst (v := 2) dL_law_284 (by decide) ?_
  refine J_iadd dL_law_285 ?_
  refine J_sld hs9 dL_law_286 hin2 ?_
  have K : ∀ (V2 : jH) (G2 : Nat) (y1 : Int32), WT V2 → jis V2 (.inr 4) ax → jis V2 (.inr 5) am → jphi V2 ax G2 → jTC V2 ax am → G2 ≤ G → J tS mL_law 1000 290 [some (.ref b), some (.ref ax), some (.ref am), some (.int i)] [.int y1] V2 (5 * N + 8 * G2) (491 * N + 20013 * G2) Q := by
    intro V2 G2 y1 hW hx hm hg hc hG2
    refine J_pop dL_law_290 rfl ?_
    refine J_aload_n dL_law_291 rfl ?_
    refine J_aload_n dL_law_292 rfl ?_
    refine J_iload_n dL_law_293 rfl ?_
    refine J_iconst (v := 1) dL_law_294 (by decide) ?_
    refine J_iadd dL_law_295 ?_
    refine J_sld hs9 dL_law_296 hin1 ?_
    refine J_aload_n dL_law_297 rfl ?_
    refine J_iload_n dL_law_298 rfl ?_
    refine J_iconst (v := 2) dL_law_299 (by decide) ?_
    refine J_iadd dL_law_300 ?_
    refine J_sld hs9 dL_law_301 hin2 ?_
    refine Jw_callV2 (q9 := (RX7, TX7, 34)) moX7_join jw_ml_L_35 jw_im_X7_join jw_se_X7_join hm rfl rfl dL_law_302 (w_X7_join 999 _ am (xs (i + 1).toNatClampNeg) (xs (i + 2).toNatClampNeg) (by decide) hW hm ) (by decide) (Nat.zero_le _) (Nat.zero_le _) (Nat.le_of_ble_eq_true rfl) (fun r V3 h => ?_)
    obtain ⟨⟨hW, he, y2, rfl, hy2⟩, hkp⟩ := h
    have hx := hx.mono he.1
    have hm := hm.mono he.1
    have hg := hg.keep he (jnot_of rfl) (jnot_of rfl)
    have hc := hc.keep he (jdis_of rfl)
    refine J_pop dL_law_305 rfl ?_
    refine J_goto (tgt := 908) dL_law_306 (by decide) ?_
    exact J.less (kc' := 5 * N + 8 * G2) (ks' := 491 * N + 20013 * G2) (by omega) (by omega) (kk _ G2 hW hx hm hg hc hG2)
  refine Jw_callV2 (q9 := (RX6, TX6, 7)) moX6_join jw_ml_L_32 jw_im_X6_join jw_se_X6_join hx rfl rfl dL_law_287 (w_X6_join 999 _ ax (xs (i + 1).toNatClampNeg) (xs (i + 2).toNatClampNeg) (by decide) hW hx ) (by decide) (Nat.zero_le _) (Nat.zero_le _) (Nat.le_of_ble_eq_true rfl) (fun r V3 h => ?_)
  obtain ⟨hW2, he, y1, rfl, hy1⟩ := h
  exact J.less (kc' := 5 * N + 8 * (G)) (ks' := 491 * N + 20013 * (G)) (by omega) (by omega) (K _ (G) _ hW2 (hx.mono he.1) (hm.mono he.1) (hg.keep he (jnot_of rfl) (jnot_of rfl)) (hc.keep he (jdis_of rfl)) (Nat.le_refl _))
set_option maxRecDepth 100000 in
set_option maxHeartbeats 4000000 in
theorem lawc_5 {tS : jTS} {b L : Nat} {xs : Nat → Int32} (hs9 : tS.2 = some (b, L, xs)) (V : jH) (ax am : Nat) (i : Int32) (G N : Nat) {Q : Option Value → jH → Prop} (hW : WT V) (hx : jis V (.inr 4) ax) (hm : jis V (.inr 5) am) (hg : jphi V ax G) (hc : jTC V ax am) (hin1 : vp_in (i + 1) L) (hin2 : vp_in (i + 2) L) (hin3 : vp_in (i + 3) L) (kk : ∀ (V2 : jH) (G2 : Nat), WT V2 → jis V2 (.inr 4) ax → jis V2 (.inr 5) am → jphi V2 ax G2 → jTC V2 ax am → G2 ≤ G → J tS mL_law 1000 908 [some (.ref b), some (.ref ax), some (.ref am), some (.int i)] [] V2 (5 * N + 8 * G2) (491 * N + 20013 * G2) Q) : J tS mL_law 1000 309 [some (.ref b), some (.ref ax), some (.ref am), some (.int i)] [] V (5 * (N + 1) + 8 * G) (491 * (N + 1) + 20013 * G) Q := by
  refine J_aload_n dL_law_309 rfl ?_
  refine J_aload_n dL_law_310 rfl ?_
  refine J_iload_n dL_law_311 rfl ?_
  refine J_iconst (v := 1) dL_law_312 (by decide) ?_
  refine J_iadd dL_law_313 ?_
  refine J_sld hs9 dL_law_314 hin1 ?_
  have K : ∀ (V2 : jH) (G2 : Nat) (y1 : Int32), WT V2 → jis V2 (.inr 4) ax → jis V2 (.inr 5) am → jphi V2 ax G2 → jTC V2 ax am → G2 ≤ G → J tS mL_law 1000 318 [some (.ref b), some (.ref ax), some (.ref am), some (.int i)] [.int y1] V2 (5 * N + 8 * G2) (491 * N + 20013 * G2) Q := by
    intro V2 G2 y1 hW hx hm hg hc hG2
    refine J_pop dL_law_318 rfl ?_
    refine J_aload_n dL_law_319 rfl ?_
    refine J_aload_n dL_law_320 rfl ?_
    refine J_iload_n dL_law_321 rfl ?_
    refine J_iconst (v := 1) dL_law_322 (by decide) ?_
    refine J_iadd dL_law_323 ?_
    refine J_sld hs9 dL_law_324 hin1 ?_
    refine Jw_callV1 (q9 := (RX7, TX7, 34)) moX7_turnBack jw_ml_L_39 jw_im_X7_turnBack jw_se_X7_turnBack hm rfl rfl dL_law_325 (w_X7_turnBack 999 _ am (xs (i + 1).toNatClampNeg) (by decide) hW hm ) (by decide) (Nat.zero_le _) (Nat.zero_le _) (Nat.le_of_ble_eq_true rfl) (fun r V3 h => ?_)
    obtain ⟨⟨hW, he, y2, rfl, hy2⟩, hkp⟩ := h
    have hx := hx.mono he.1
    have hm := hm.mono he.1
    have hg := hg.keep he (jnot_of rfl) (jnot_of rfl)
    have hc := hc.keep he (jdis_of rfl)
    refine J_pop dL_law_328 rfl ?_
    refine J_goto (tgt := 908) dL_law_329 (by decide) ?_
    exact J.less (kc' := 5 * N + 8 * G2) (ks' := 491 * N + 20013 * G2) (by omega) (by omega) (kk _ G2 hW hx hm hg hc hG2)
  refine Jw_callV1 (q9 := (RX6, TX6, 7)) moX6_turnBack jw_ml_L_36 jw_im_X6_turnBack jw_se_X6_turnBack hx rfl rfl dL_law_315 (w_X6_turnBack 999 _ ax (xs (i + 1).toNatClampNeg) (by decide) hW hx ) (by decide) (Nat.zero_le _) (Nat.zero_le _) (Nat.le_of_ble_eq_true rfl) (fun r V3 h => ?_)
  obtain ⟨hW2, he, y1, rfl, hy1⟩ := h
  exact J.less (kc' := 5 * N + 8 * (G)) (ks' := 491 * N + 20013 * (G)) (by omega) (by omega) (K _ (G) _ hW2 (hx.mono he.1) (hm.mono he.1) (hg.keep he (jnot_of rfl) (jnot_of rfl)) (hc.keep he (jdis_of rfl)) (Nat.le_refl _))
set_option maxRecDepth 100000 in
set_option maxHeartbeats 4000000 in
theorem lawc_6 {tS : jTS} {b L : Nat} {xs : Nat → Int32} (hs9 : tS.2 = some (b, L, xs)) (V : jH) (ax am : Nat) (i : Int32) (G N : Nat) {Q : Option Value → jH → Prop} (hW : WT V) (hx : jis V (.inr 4) ax) (hm : jis V (.inr 5) am) (hg : jphi V ax G) (hc : jTC V ax am) (hin1 : vp_in (i + 1) L) (hin2 : vp_in (i + 2) L) (hin3 : vp_in (i + 3) L) (kk : ∀ (V2 : jH) (G2 : Nat), WT V2 → jis V2 (.inr 4) ax → jis V2 (.inr 5) am → jphi V2 ax G2 → jTC V2 ax am → G2 ≤ G → J tS mL_law 1000 908 [some (.ref b), some (.ref ax), some (.ref am), some (.int i)] [] V2 (5 * N + 8 * G2) (491 * N + 20013 * G2) Q) : J tS mL_law 1000 332 [some (.ref b), some (.ref ax), some (.ref am), some (.int i)] [] V (5 * (N + 1) + 8 * G) (491 * (N + 1) + 20013 * G) Q := by
  refine J_aload_n dL_law_332 rfl ?_
  refine J_aload_n dL_law_333 rfl ?_
  refine J_iload_n dL_law_334 rfl ?_
  refine J_iconst (v := 1) dL_law_335 (by decide) ?_
  refine J_iadd dL_law_336 ?_
  refine J_sld hs9 dL_law_337 hin1 ?_
  refine J_aload_n dL_law_338 rfl ?_
  refine J_iload_n dL_law_339 rfl ?_
  refine J_iconst (v := 2) dL_law_340 (by decide) ?_
  refine J_iadd dL_law_341 ?_
  refine J_sld hs9 dL_law_342 hin2 ?_
  have K : ∀ (V2 : jH) (G2 : Nat) (y1 : Int32), WT V2 → jis V2 (.inr 4) ax → jis V2 (.inr 5) am → jphi V2 ax G2 → jTC V2 ax am → G2 ≤ G → J tS mL_law 1000 346 [some (.ref b), some (.ref ax), some (.ref am), some (.int i)] [.int y1] V2 (5 * N + 8 * G2) (491 * N + 20013 * G2) Q := by
    intro V2 G2 y1 hW hx hm hg hc hG2
    refine J_pop dL_law_346 rfl ?_
    refine J_aload_n dL_law_347 rfl ?_
    refine J_aload_n dL_law_348 rfl ?_
    refine J_iload_n dL_law_349 rfl ?_
    refine J_iconst (v := 1) dL_law_350 (by decide) ?_
    refine J_iadd dL_law_351 ?_
    refine J_sld hs9 dL_law_352 hin1 ?_
    refine J_aload_n dL_law_353 rfl ?_
    refine J_iload_n dL_law_354 rfl ?_
    refine J_iconst (v := 2) dL_law_355 (by decide) ?_
    refine J_iadd dL_law_356 ?_
    refine J_sld hs9 dL_law_357 hin2 ?_
    refine Jw_callV2 (q9 := (RX7, TX7, 34)) moX7_stepAt jw_ml_L_43 jw_im_X7_stepAt jw_se_X7_stepAt hm rfl rfl dL_law_358 (w_X7_stepAt 999 _ am (xs (i + 1).toNatClampNeg) (xs (i + 2).toNatClampNeg) (by decide) hW hm ) (by decide) (Nat.zero_le _) (Nat.zero_le _) (Nat.le_of_ble_eq_true rfl) (fun r V3 h => ?_)
    obtain ⟨⟨y2, rfl, hy2⟩, hE⟩ := h
    subst hE
    refine J_pop dL_law_361 rfl ?_
    refine J_goto (tgt := 908) dL_law_362 (by decide) ?_
    exact J.less (kc' := 5 * N + 8 * G2) (ks' := 491 * N + 20013 * G2) (by omega) (by omega) (kk _ G2 hW hx hm hg hc hG2)
  refine Jw_callV2 (q9 := (RX6, TX6, 7)) moX6_stepAt jw_ml_L_40 jw_im_X6_stepAt jw_se_X6_stepAt hx rfl rfl dL_law_343 (w_X6_stepAt 999 _ ax (xs (i + 1).toNatClampNeg) (xs (i + 2).toNatClampNeg) (by decide) hW hx ) (by decide) (Nat.zero_le _) (Nat.zero_le _) (Nat.le_of_ble_eq_true rfl) (fun r V3 h => ?_)
  obtain ⟨⟨y1, rfl, hy1⟩, hE⟩ := h
  subst hE
  exact J.less (kc' := 5 * N + 8 * (G)) (ks' := 491 * N + 20013 * (G)) (by omega) (by omega) (K _ (G) _ hW hx hm hg hc (Nat.le_refl _))
set_option maxRecDepth 100000 in
set_option maxHeartbeats 4000000 in
theorem lawc_7 {tS : jTS} {b L : Nat} {xs : Nat → Int32} (hs9 : tS.2 = some (b, L, xs)) (V : jH) (ax am : Nat) (i : Int32) (G N : Nat) {Q : Option Value → jH → Prop} (hW : WT V) (hx : jis V (.inr 4) ax) (hm : jis V (.inr 5) am) (hg : jphi V ax G) (hc : jTC V ax am) (hin1 : vp_in (i + 1) L) (hin2 : vp_in (i + 2) L) (hin3 : vp_in (i + 3) L) (kk : ∀ (V2 : jH) (G2 : Nat), WT V2 → jis V2 (.inr 4) ax → jis V2 (.inr 5) am → jphi V2 ax G2 → jTC V2 ax am → G2 ≤ G → J tS mL_law 1000 908 [some (.ref b), some (.ref ax), some (.ref am), some (.int i)] [] V2 (5 * N + 8 * G2) (491 * N + 20013 * G2) Q) : J tS mL_law 1000 365 [some (.ref b), some (.ref ax), some (.ref am), some (.int i)] [] V (5 * (N + 1) + 8 * G) (491 * (N + 1) + 20013 * G) Q := by
  refine J_aload_n dL_law_365 rfl ?_
  refine J_aload_n dL_law_366 rfl ?_
  refine J_iload_n dL_law_367 rfl ?_
  refine J_iconst (v := 1) dL_law_368 (by decide) ?_
  refine J_iadd dL_law_369 ?_
  refine J_sld hs9 dL_law_370 hin1 ?_
  refine J_aload_n dL_law_371 rfl ?_
  refine J_iload_n dL_law_372 rfl ?_
  refine J_iconst (v := 2) dL_law_373 (by decide) ?_
  refine J_iadd dL_law_374 ?_
  refine J_sld hs9 dL_law_375 hin2 ?_
  refine J_aload_n dL_law_376 rfl ?_
  refine J_iload_n dL_law_377 rfl ?_
  refine J_iconst (v := 3) dL_law_378 (by decide) ?_
  refine J_iadd dL_law_379 ?_
  refine J_sld hs9 dL_law_380 hin3 ?_
  have K : ∀ (V2 : jH) (G2 : Nat) (y1 : Int32), WT V2 → jis V2 (.inr 4) ax → jis V2 (.inr 5) am → jphi V2 ax G2 → jTC V2 ax am → G2 ≤ G → J tS mL_law 1000 384 [some (.ref b), some (.ref ax), some (.ref am), some (.int i)] [.int y1] V2 (5 * N + 8 * G2) (491 * N + 20013 * G2) Q := by
    intro V2 G2 y1 hW hx hm hg hc hG2
    refine J_pop dL_law_384 rfl ?_
    refine J_aload_n dL_law_385 rfl ?_
    refine J_aload_n dL_law_386 rfl ?_
    refine J_iload_n dL_law_387 rfl ?_
    refine J_iconst (v := 1) dL_law_388 (by decide) ?_
    refine J_iadd dL_law_389 ?_
    refine J_sld hs9 dL_law_390 hin1 ?_
    refine J_aload_n dL_law_391 rfl ?_
    refine J_iload_n dL_law_392 rfl ?_
    refine J_iconst (v := 2) dL_law_393 (by decide) ?_
    refine J_iadd dL_law_394 ?_
    refine J_sld hs9 dL_law_395 hin2 ?_
    refine J_aload_n dL_law_396 rfl ?_
    refine J_iload_n dL_law_397 rfl ?_
    refine J_iconst (v := 3) dL_law_398 (by decide) ?_
    refine J_iadd dL_law_399 ?_
    refine J_sld hs9 dL_law_400 hin3 ?_
    refine Jw_callV3 (q9 := (RX7, TX7, 34)) moX7_place jw_ml_L_47 jw_im_X7_place jw_se_X7_place hm rfl rfl dL_law_401 (w_X7_place 999 _ am (xs (i + 1).toNatClampNeg) (xs (i + 2).toNatClampNeg) (xs (i + 3).toNatClampNeg) (by decide) hW hm ) (by decide) (Nat.zero_le _) (Nat.zero_le _) (Nat.le_of_ble_eq_true rfl) (fun r V3 h => ?_)
    obtain ⟨⟨hW, he, y2, rfl, hy2⟩, hkp⟩ := h
    have hx := hx.mono he.1
    have hm := hm.mono he.1
    have hg := hg.keep he (jnot_of rfl) (jnot_of rfl)
    have hc := hc.keep he (jdis_of rfl)
    refine J_pop dL_law_404 rfl ?_
    refine J_goto (tgt := 908) dL_law_405 (by decide) ?_
    exact J.less (kc' := 5 * N + 8 * G2) (ks' := 491 * N + 20013 * G2) (by omega) (by omega) (kk _ G2 hW hx hm hg hc hG2)
  refine Jw_callV3 (q9 := (RX6, TX6, 7)) moX6_place jw_ml_L_44 jw_im_X6_place jw_se_X6_place hx rfl rfl dL_law_381 (w_X6_place 999 _ ax (xs (i + 1).toNatClampNeg) (xs (i + 2).toNatClampNeg) (xs (i + 3).toNatClampNeg) (by decide) hW hx ) (by decide) (Nat.zero_le _) (Nat.zero_le _) (Nat.le_of_ble_eq_true rfl) (fun r V3 h => ?_)
  obtain ⟨⟨y1, rfl, hy1⟩, hE⟩ := h
  subst hE
  exact J.less (kc' := 5 * N + 8 * (G)) (ks' := 491 * N + 20013 * (G)) (by omega) (by omega) (K _ (G) _ hW hx hm hg hc (Nat.le_refl _))
set_option maxRecDepth 100000 in
set_option maxHeartbeats 4000000 in
theorem lawc_8 {tS : jTS} {b L : Nat} {xs : Nat → Int32} (hs9 : tS.2 = some (b, L, xs)) (V : jH) (ax am : Nat) (i : Int32) (G N : Nat) {Q : Option Value → jH → Prop} (hW : WT V) (hx : jis V (.inr 4) ax) (hm : jis V (.inr 5) am) (hg : jphi V ax G) (hc : jTC V ax am) (hin1 : vp_in (i + 1) L) (hin2 : vp_in (i + 2) L) (hin3 : vp_in (i + 3) L) (kk : ∀ (V2 : jH) (G2 : Nat), WT V2 → jis V2 (.inr 4) ax → jis V2 (.inr 5) am → jphi V2 ax G2 → jTC V2 ax am → G2 ≤ G → J tS mL_law 1000 908 [some (.ref b), some (.ref ax), some (.ref am), some (.int i)] [] V2 (5 * N + 8 * G2) (491 * N + 20013 * G2) Q) : J tS mL_law 1000 408 [some (.ref b), some (.ref ax), some (.ref am), some (.int i)] [] V (5 * (N + 1) + 8 * G) (491 * (N + 1) + 20013 * G) Q := by
  refine J_aload_n dL_law_408 rfl ?_
  refine J_aload_n dL_law_409 rfl ?_
  refine J_iload_n dL_law_410 rfl ?_
  refine J_iconst (v := 1) dL_law_411 (by decide) ?_
  refine J_iadd dL_law_412 ?_
  refine J_sld hs9 dL_law_413 hin1 ?_
  refine J_aload_n dL_law_414 rfl ?_
  refine J_iload_n dL_law_415 rfl ?_
  refine J_iconst (v := 2) dL_law_416 (by decide) ?_
  refine J_iadd dL_law_417 ?_
  refine J_sld hs9 dL_law_418 hin2 ?_
  have K : ∀ (V2 : jH) (G2 : Nat) (y1 : Int32), WT V2 → jis V2 (.inr 4) ax → jis V2 (.inr 5) am → jphi V2 ax G2 → jTC V2 ax am → G2 ≤ G → J tS mL_law 1000 422 [some (.ref b), some (.ref ax), some (.ref am), some (.int i)] [.int y1] V2 (5 * N + 8 * G2) (491 * N + 20013 * G2) Q := by
    intro V2 G2 y1 hW hx hm hg hc hG2
    refine J_pop dL_law_422 rfl ?_
    refine J_aload_n dL_law_423 rfl ?_
    refine J_aload_n dL_law_424 rfl ?_
    refine J_iload_n dL_law_425 rfl ?_
    refine J_iconst (v := 1) dL_law_426 (by decide) ?_
    refine J_iadd dL_law_427 ?_
    refine J_sld hs9 dL_law_428 hin1 ?_
    refine J_aload_n dL_law_429 rfl ?_
    refine J_iload_n dL_law_430 rfl ?_
    refine J_iconst (v := 2) dL_law_431 (by decide) ?_
    refine J_iadd dL_law_432 ?_
    refine J_sld hs9 dL_law_433 hin2 ?_
    refine Jw_callV2 (q9 := (RX7, TX7, 34)) moX7_about jw_ml_L_51 jw_im_X7_about jw_se_X7_about hm rfl rfl dL_law_434 (w_X7_about 999 _ am (xs (i + 1).toNatClampNeg) (xs (i + 2).toNatClampNeg) (by decide) hW hm ) (by decide) (Nat.zero_le _) (Nat.zero_le _) (Nat.le_of_ble_eq_true rfl) (fun r V3 h => ?_)
    obtain ⟨⟨hW, he, y2, rfl, hy2⟩, hkp⟩ := h
    have hx := hx.mono he.1
    have hm := hm.mono he.1
    have hg := hg.keep he (jnot_of rfl) (jnot_of rfl)
    have hc := hc.keep he (jdis_of rfl)
    refine J_pop dL_law_437 rfl ?_
    refine J_goto (tgt := 908) dL_law_438 (by decide) ?_
    exact J.less (kc' := 5 * N + 8 * G2) (ks' := 491 * N + 20013 * G2) (by omega) (by omega) (kk _ G2 hW hx hm hg hc hG2)
  refine Jw_callV2 (q9 := (RX6, TX6, 7)) moX6_about jw_ml_L_48 jw_im_X6_about jw_se_X6_about hx rfl rfl dL_law_419 (w_X6_about 999 _ ax (xs (i + 1).toNatClampNeg) (xs (i + 2).toNatClampNeg) (by decide) hW hx ) (by decide) (Nat.zero_le _) (Nat.zero_le _) (Nat.le_of_ble_eq_true rfl) (fun r V3 h => ?_)
  obtain ⟨⟨y1, rfl, hy1⟩, hE⟩ := h
  subst hE
  exact J.less (kc' := 5 * N + 8 * (G)) (ks' := 491 * N + 20013 * (G)) (by omega) (by omega) (K _ (G) _ hW hx hm hg hc (Nat.le_refl _))
set_option maxRecDepth 100000 in
set_option maxHeartbeats 4000000 in
theorem lawc_9 {tS : jTS} {b L : Nat} {xs : Nat → Int32} (hs9 : tS.2 = some (b, L, xs)) (V : jH) (ax am : Nat) (i : Int32) (G N : Nat) {Q : Option Value → jH → Prop} (hW : WT V) (hx : jis V (.inr 4) ax) (hm : jis V (.inr 5) am) (hg : jphi V ax G) (hc : jTC V ax am) (hin1 : vp_in (i + 1) L) (hin2 : vp_in (i + 2) L) (hin3 : vp_in (i + 3) L) (kk : ∀ (V2 : jH) (G2 : Nat), WT V2 → jis V2 (.inr 4) ax → jis V2 (.inr 5) am → jphi V2 ax G2 → jTC V2 ax am → G2 ≤ G → J tS mL_law 1000 908 [some (.ref b), some (.ref ax), some (.ref am), some (.int i)] [] V2 (5 * N + 8 * G2) (491 * N + 20013 * G2) Q) : J tS mL_law 1000 441 [some (.ref b), some (.ref ax), some (.ref am), some (.int i)] [] V (5 * (N + 1) + 8 * G) (491 * (N + 1) + 20013 * G) Q := by
  refine J_aload_n dL_law_441 rfl ?_
  refine J_aload_n dL_law_442 rfl ?_
  refine J_iload_n dL_law_443 rfl ?_
  refine J_iconst (v := 1) dL_law_444 (by decide) ?_
  refine J_iadd dL_law_445 ?_
  refine J_sld hs9 dL_law_446 hin1 ?_
  refine J_aload_n dL_law_447 rfl ?_
  refine J_iload_n dL_law_448 rfl ?_
  refine J_iconst (v := 2) dL_law_449 (by decide) ?_
  refine J_iadd dL_law_450 ?_
  refine J_sld hs9 dL_law_451 hin2 ?_
  have K : ∀ (V2 : jH) (G2 : Nat) (y1 : Int32), WT V2 → jis V2 (.inr 4) ax → jis V2 (.inr 5) am → jphi V2 ax G2 → jTC V2 ax am → G2 ≤ G → J tS mL_law 1000 455 [some (.ref b), some (.ref ax), some (.ref am), some (.int i)] [.int y1] V2 (5 * N + 8 * G2) (491 * N + 20013 * G2) Q := by
    intro V2 G2 y1 hW hx hm hg hc hG2
    refine J_pop dL_law_455 rfl ?_
    refine J_aload_n dL_law_456 rfl ?_
    refine J_aload_n dL_law_457 rfl ?_
    refine J_iload_n dL_law_458 rfl ?_
    refine J_iconst (v := 1) dL_law_459 (by decide) ?_
    refine J_iadd dL_law_460 ?_
    refine J_sld hs9 dL_law_461 hin1 ?_
    refine J_aload_n dL_law_462 rfl ?_
    refine J_iload_n dL_law_463 rfl ?_
    refine J_iconst (v := 2) dL_law_464 (by decide) ?_
    refine J_iadd dL_law_465 ?_
    refine J_sld hs9 dL_law_466 hin2 ?_
    refine Jw_callV2 (q9 := (RX7, TX7, 34)) moX7_form jw_ml_L_55 jw_im_X7_form jw_se_X7_form hm rfl rfl dL_law_467 (w_X7_form 999 _ am (xs (i + 1).toNatClampNeg) (xs (i + 2).toNatClampNeg) (by decide) hW hm ) (by decide) (Nat.zero_le _) (Nat.zero_le _) (Nat.le_of_ble_eq_true rfl) (fun r V3 h => ?_)
    obtain ⟨⟨hW, he, y2, rfl, hy2⟩, hkp⟩ := h
    have hx := hx.mono he.1
    have hm := hm.mono he.1
    have hg := hg.keep he (jnot_of rfl) (jnot_of rfl)
    have hc := hc.keep he (jdis_of rfl)
    refine J_pop dL_law_470 rfl ?_
    refine J_goto (tgt := 908) dL_law_471 (by decide) ?_
    exact J.less (kc' := 5 * N + 8 * G2) (ks' := 491 * N + 20013 * G2) (by omega) (by omega) (kk _ G2 hW hx hm hg hc hG2)
  refine Jw_callV2 (q9 := (RX6, TX6, 7)) moX6_form jw_ml_L_52 jw_im_X6_form jw_se_X6_form hx rfl rfl dL_law_452 (w_X6_form 999 _ ax (xs (i + 1).toNatClampNeg) (xs (i + 2).toNatClampNeg) (by decide) hW hx ) (by decide) (Nat.zero_le _) (Nat.zero_le _) (Nat.le_of_ble_eq_true rfl) (fun r V3 h => ?_)
  obtain ⟨hW2, he, y1, rfl, hy1⟩ := h
  exact J.less (kc' := 5 * N + 8 * (G)) (ks' := 491 * N + 20013 * (G)) (by omega) (by omega) (K _ (G) _ hW2 (hx.mono he.1) (hm.mono he.1) (hg.keep he (jnot_of rfl) (jnot_of rfl)) (hc.keep he (jdis_of rfl)) (Nat.le_refl _))
set_option maxRecDepth 100000 in
set_option maxHeartbeats 4000000 in
theorem lawc_10 {tS : jTS} {b L : Nat} {xs : Nat → Int32} (hs9 : tS.2 = some (b, L, xs)) (V : jH) (ax am : Nat) (i : Int32) (G N : Nat) {Q : Option Value → jH → Prop} (hW : WT V) (hx : jis V (.inr 4) ax) (hm : jis V (.inr 5) am) (hg : jphi V ax G) (hc : jTC V ax am) (hin1 : vp_in (i + 1) L) (hin2 : vp_in (i + 2) L) (hin3 : vp_in (i + 3) L) (kk : ∀ (V2 : jH) (G2 : Nat), WT V2 → jis V2 (.inr 4) ax → jis V2 (.inr 5) am → jphi V2 ax G2 → jTC V2 ax am → G2 ≤ G → J tS mL_law 1000 908 [some (.ref b), some (.ref ax), some (.ref am), some (.int i)] [] V2 (5 * N + 8 * G2) (491 * N + 20013 * G2) Q) : J tS mL_law 1000 474 [some (.ref b), some (.ref ax), some (.ref am), some (.int i)] [] V (5 * (N + 1) + 8 * G) (491 * (N + 1) + 20013 * G) Q := by
  refine J_aload_n dL_law_474 rfl ?_
  refine J_aload_n dL_law_475 rfl ?_
  refine J_iload_n dL_law_476 rfl ?_
  refine J_iconst (v := 1) dL_law_477 (by decide) ?_
  refine J_iadd dL_law_478 ?_
  refine J_sld hs9 dL_law_479 hin1 ?_
  refine J_aload_n dL_law_480 rfl ?_
  refine J_iload_n dL_law_481 rfl ?_
  refine J_iconst (v := 2) dL_law_482 (by decide) ?_
  refine J_iadd dL_law_483 ?_
  refine J_sld hs9 dL_law_484 hin2 ?_
  have K : ∀ (V2 : jH) (G2 : Nat) (y1 : Int32), WT V2 → jis V2 (.inr 4) ax → jis V2 (.inr 5) am → jphi V2 ax G2 → jTC V2 ax am → G2 ≤ G → J tS mL_law 1000 488 [some (.ref b), some (.ref ax), some (.ref am), some (.int i)] [.int y1] V2 (5 * N + 8 * G2) (491 * N + 20013 * G2) Q := by
    intro V2 G2 y1 hW hx hm hg hc hG2
    refine J_pop dL_law_488 rfl ?_
    refine J_aload_n dL_law_489 rfl ?_
    refine J_aload_n dL_law_490 rfl ?_
    refine J_iload_n dL_law_491 rfl ?_
    refine J_iconst (v := 1) dL_law_492 (by decide) ?_
    refine J_iadd dL_law_493 ?_
    refine J_sld hs9 dL_law_494 hin1 ?_
    refine J_aload_n dL_law_495 rfl ?_
    refine J_iload_n dL_law_496 rfl ?_
    refine J_iconst (v := 2) dL_law_497 (by decide) ?_
    refine J_iadd dL_law_498 ?_
    refine J_sld hs9 dL_law_499 hin2 ?_
    refine Jw_callV2 (q9 := (RX7, TX7, 34)) moX7_alike jw_ml_L_59 jw_im_X7_alike jw_se_X7_alike hm rfl rfl dL_law_500 (w_X7_alike 999 _ am (xs (i + 1).toNatClampNeg) (xs (i + 2).toNatClampNeg) (by decide) hW hm ) (by decide) (Nat.zero_le _) (Nat.zero_le _) (Nat.le_of_ble_eq_true rfl) (fun r V3 h => ?_)
    obtain ⟨⟨hW, he, y2, rfl, hy2⟩, hkp⟩ := h
    have hx := hx.mono he.1
    have hm := hm.mono he.1
    have hg := hg.keep he (jnot_of rfl) (jnot_of rfl)
    have hc := hc.keep he (jdis_of rfl)
    refine J_pop dL_law_503 rfl ?_
    refine J_goto (tgt := 908) dL_law_504 (by decide) ?_
    exact J.less (kc' := 5 * N + 8 * G2) (ks' := 491 * N + 20013 * G2) (by omega) (by omega) (kk _ G2 hW hx hm hg hc hG2)
  refine Jw_callV2 (q9 := (RX6, TX6, 7)) moX6_alike jw_ml_L_56 jw_im_X6_alike jw_se_X6_alike hx rfl rfl dL_law_485 (w_X6_alike 999 _ ax (xs (i + 1).toNatClampNeg) (xs (i + 2).toNatClampNeg) (by decide) hW hx ) (by decide) (Nat.zero_le _) (Nat.zero_le _) (Nat.le_of_ble_eq_true rfl) (fun r V3 h => ?_)
  obtain ⟨hW2, he, y1, rfl, hy1⟩ := h
  exact J.less (kc' := 5 * N + 8 * (G)) (ks' := 491 * N + 20013 * (G)) (by omega) (by omega) (K _ (G) _ hW2 (hx.mono he.1) (hm.mono he.1) (hg.keep he (jnot_of rfl) (jnot_of rfl)) (hc.keep he (jdis_of rfl)) (Nat.le_refl _))
set_option maxRecDepth 100000 in
set_option maxHeartbeats 4000000 in
theorem lawc_11 {tS : jTS} {b L : Nat} {xs : Nat → Int32} (hs9 : tS.2 = some (b, L, xs)) (V : jH) (ax am : Nat) (i : Int32) (G N : Nat) {Q : Option Value → jH → Prop} (hW : WT V) (hx : jis V (.inr 4) ax) (hm : jis V (.inr 5) am) (hg : jphi V ax G) (hc : jTC V ax am) (hin1 : vp_in (i + 1) L) (hin2 : vp_in (i + 2) L) (hin3 : vp_in (i + 3) L) (kk : ∀ (V2 : jH) (G2 : Nat), WT V2 → jis V2 (.inr 4) ax → jis V2 (.inr 5) am → jphi V2 ax G2 → jTC V2 ax am → G2 ≤ G → J tS mL_law 1000 908 [some (.ref b), some (.ref ax), some (.ref am), some (.int i)] [] V2 (5 * N + 8 * G2) (491 * N + 20013 * G2) Q) : J tS mL_law 1000 507 [some (.ref b), some (.ref ax), some (.ref am), some (.int i)] [] V (5 * (N + 1) + 8 * G) (491 * (N + 1) + 20013 * G) Q := by
  refine J_aload_n dL_law_507 rfl ?_
  refine J_aload_n dL_law_508 rfl ?_
  refine J_iload_n dL_law_509 rfl ?_
  refine J_iconst (v := 1) dL_law_510 (by decide) ?_
  refine J_iadd dL_law_511 ?_
  refine J_sld hs9 dL_law_512 hin1 ?_
  refine J_aload_n dL_law_513 rfl ?_
  refine J_iload_n dL_law_514 rfl ?_
  refine J_iconst (v := 2) dL_law_515 (by decide) ?_
  refine J_iadd dL_law_516 ?_
  refine J_sld hs9 dL_law_517 hin2 ?_
  have K : ∀ (V2 : jH) (G2 : Nat) (y1 : Int32), (((0 ≤ (xs (i + 1).toNatClampNeg).toInt ∧ (xs (i + 1).toNatClampNeg).toInt ≤ 3 ∧ 0 ≤ (xs (i + 2).toNatClampNeg).toInt ∧ (xs (i + 2).toNatClampNeg).toInt ≤ 20) ∧ ((jTT (xs (i + 1).toNatClampNeg).toInt (xs (i + 2).toNatClampNeg).toInt.toNat jL0 ≤ 600000 ∧ y1.toInt = ((jrq (xs (i + 1).toNatClampNeg).toInt (xs (i + 2).toNatClampNeg).toInt.toNat).1 : Int)) ∨ (600000 < jTT (xs (i + 1).toNatClampNeg).toInt (xs (i + 2).toNatClampNeg).toInt.toNat jL0 ∧ y1.toInt = -5))) ∨ (¬ (0 ≤ (xs (i + 1).toNatClampNeg).toInt ∧ (xs (i + 1).toNatClampNeg).toInt ≤ 3 ∧ 0 ≤ (xs (i + 2).toNatClampNeg).toInt ∧ (xs (i + 2).toNatClampNeg).toInt ≤ 20) ∧ y1.toInt = -2)) → WT V2 → jis V2 (.inr 4) ax → jis V2 (.inr 5) am → jphi V2 ax G2 → jTC V2 ax am → G2 ≤ G → J tS mL_law 1000 521 [some (.ref b), some (.ref ax), some (.ref am), some (.int i)] [.int y1] V2 (5 * N + 8 * G2) (491 * N + 20013 * G2) Q := by
    intro V2 G2 y1 hy1 hW hx hm hg hc hG2
    refine J_pop dL_law_521 rfl ?_
    refine J_aload_n dL_law_522 rfl ?_
    refine J_aload_n dL_law_523 rfl ?_
    refine J_iload_n dL_law_524 rfl ?_
    refine J_iconst (v := 1) dL_law_525 (by decide) ?_
    refine J_iadd dL_law_526 ?_
    refine J_sld hs9 dL_law_527 hin1 ?_
    refine J_aload_n dL_law_528 rfl ?_
    refine J_iload_n dL_law_529 rfl ?_
    refine J_iconst (v := 2) dL_law_530 (by decide) ?_
    refine J_iadd dL_law_531 ?_
    refine J_sld hs9 dL_law_532 hin2 ?_
    refine Jw_callV2 (q9 := (RX7, TX7, 34)) moX7_walks jw_ml_L_63 jw_im_X7_walks jw_se_X7_walks hm rfl rfl dL_law_533 (w_X7_walks_z 999 _ am (xs (i + 1).toNatClampNeg) (xs (i + 2).toNatClampNeg) (by decide) hW hm hc.2) (by decide) (Nat.zero_le _) (Nat.zero_le _) (Nat.le_of_ble_eq_true rfl) (fun r V3 h => ?_)
    obtain ⟨⟨hW, he, y2, rfl, -, -, hy2⟩, hRM, hkp⟩ := h
    have hx := hx.mono he.1
    have hm := hm.mono he.1
    have hg := hg.keep he (jnot_of rfl) (jnot_of rfl)
    have hc : jTC V3 ax am := ⟨hc.1.keep he (jdis_of rfl), hRM⟩
    have hyA : y1.toInt = y2.toInt := by
      rcases hy1 with ⟨p1, p2⟩ | ⟨p1, p2⟩
      · rcases hy2 with ⟨p3, p4⟩ | ⟨p3, p4⟩
        · rcases p2 with ⟨p5, p6⟩ | ⟨p5, p6⟩
          · rcases p4 with ⟨p7, p8⟩ | ⟨p7, p8⟩
            · exact p6.trans p8.symm
            · exact absurd p7 (by omega)
          · rcases p4 with ⟨p7, p8⟩ | ⟨p7, p8⟩
            · exact absurd p7 (by omega)
            · exact p6.trans p8.symm
        · exact absurd p1 p3
      · rcases hy2 with ⟨p3, p4⟩ | ⟨p3, p4⟩
        · exact absurd p3 p1
        · exact p2.trans p4.symm
    refine J_pop dL_law_536 rfl ?_
    refine J_goto (tgt := 908) dL_law_537 (by decide) ?_
    exact J.less (kc' := 5 * N + 8 * G2) (ks' := 491 * N + 20013 * G2) (by omega) (by omega) (kk _ G2 hW hx hm hg hc hG2)
  by_cases c1 : (xs (i + 1).toNatClampNeg) < 0
  · refine Jw_callV2 (q9 := (RX6, TX6, 7)) moX6_walks jw_ml_L_60 jw_im_X6_walks jw_se_X6_walks hx rfl rfl dL_law_518 (w_X6_walks_zbad 999 _ ax _ _ (by decide) hW hx (Or.inl c1)) (by decide) (Nat.zero_le _) (Nat.zero_le _) (Nat.le_of_ble_eq_true rfl) (fun r V3 h => ?_)
    obtain ⟨⟨y1, rfl, -, -, hy1⟩, hE⟩ := h
    have hE := hE.symm
    subst hE
    exact J.less (kc' := 5 * N + 8 * (G)) (ks' := 491 * N + 20013 * (G)) (by omega) (by omega) (K _ (G) _ (Or.inr ⟨(fun q => by rw [jlt] at c1; have q9 : (0 : Int32).toInt = 0 := rfl; omega), hy1⟩) hW hx hm hg hc (Nat.le_refl _))
  by_cases c2 : Int32.ofNat 4 ≤ (xs (i + 1).toNatClampNeg)
  · refine Jw_callV2 (q9 := (RX6, TX6, 7)) moX6_walks jw_ml_L_60 jw_im_X6_walks jw_se_X6_walks hx rfl rfl dL_law_518 (w_X6_walks_zbad 999 _ ax _ _ (by decide) hW hx (Or.inr (Or.inl c2))) (by decide) (Nat.zero_le _) (Nat.zero_le _) (Nat.le_of_ble_eq_true rfl) (fun r V3 h => ?_)
    obtain ⟨⟨y1, rfl, -, -, hy1⟩, hE⟩ := h
    have hE := hE.symm
    subst hE
    exact J.less (kc' := 5 * N + 8 * (G)) (ks' := 491 * N + 20013 * (G)) (by omega) (by omega) (K _ (G) _ (Or.inr ⟨(fun q => by rw [jle] at c2; have q9 : (Int32.ofNat 4).toInt = 4 := rfl; omega), hy1⟩) hW hx hm hg hc (Nat.le_refl _))
  by_cases c3 : (xs (i + 2).toNatClampNeg) < 0
  · refine Jw_callV2 (q9 := (RX6, TX6, 7)) moX6_walks jw_ml_L_60 jw_im_X6_walks jw_se_X6_walks hx rfl rfl dL_law_518 (w_X6_walks_zbad 999 _ ax _ _ (by decide) hW hx (Or.inr (Or.inr (Or.inl c3)))) (by decide) (Nat.zero_le _) (Nat.zero_le _) (Nat.le_of_ble_eq_true rfl) (fun r V3 h => ?_)
    obtain ⟨⟨y1, rfl, -, -, hy1⟩, hE⟩ := h
    have hE := hE.symm
    subst hE
    exact J.less (kc' := 5 * N + 8 * (G)) (ks' := 491 * N + 20013 * (G)) (by omega) (by omega) (K _ (G) _ (Or.inr ⟨(fun q => by rw [jlt] at c3; have q9 : (0 : Int32).toInt = 0 := rfl; omega), hy1⟩) hW hx hm hg hc (Nat.le_refl _))
  by_cases c4 : (xs (i + 2).toNatClampNeg) ≤ 20
  rotate_left
  · refine Jw_callV2 (q9 := (RX6, TX6, 7)) moX6_walks jw_ml_L_60 jw_im_X6_walks jw_se_X6_walks hx rfl rfl dL_law_518 (w_X6_walks_zbad 999 _ ax _ _ (by decide) hW hx (Or.inr (Or.inr (Or.inr c4)))) (by decide) (Nat.zero_le _) (Nat.zero_le _) (Nat.le_of_ble_eq_true rfl) (fun r V3 h => ?_)
    obtain ⟨⟨y1, rfl, -, -, hy1⟩, hE⟩ := h
    have hE := hE.symm
    subst hE
    exact J.less (kc' := 5 * N + 8 * (G)) (ks' := 491 * N + 20013 * (G)) (by omega) (by omega) (K _ (G) _ (Or.inr ⟨(fun q => by rw [jle] at c4; have q9 : (20 : Int32).toInt = 20 := rfl; omega), hy1⟩) hW hx hm hg hc (Nat.le_refl _))
  have hR : (0 ≤ (xs (i + 1).toNatClampNeg).toInt ∧ (xs (i + 1).toNatClampNeg).toInt ≤ 3 ∧ 0 ≤ (xs (i + 2).toNatClampNeg).toInt ∧ (xs (i + 2).toNatClampNeg).toInt ≤ 20) := by
    have c1i := c1
    have c2i := c2
    have c3i := c3
    have c4i := c4
    rw [jlt] at c1i c3i
    rw [jle] at c2i c4i
    have q9 : (0 : Int32).toInt = 0 := rfl
    have q8 : (Int32.ofNat 4).toInt = 4 := rfl
    have q7 : (0 : Int32).toInt = 0 := rfl
    have q6 : (20 : Int32).toInt = 20 := rfl
    omega
  obtain ⟨fs, tl, f, g, hO, hF, hA, hgs, hsum⟩ := id hg
  obtain ⟨j, hj, hgj⟩ := vp_in_of (vp_in_g c1 c2 (by decide)) (by decide)
  obtain ⟨fs8, tl8, f8, A, v1, v2, v3, hty4, hA5⟩ := id hc.1
  cases hO.symm.trans v1
  cases hF.symm.trans v2
  cases hA.symm.trans v3
  have hgi : (xs (i + 1).toNatClampNeg).toInt = (j : Int) := by rw [hgj]; exact nI_toInt (by omega)
  cases hf : f j with
  | none =>
    have hroom := jg_none hgs hsum hj hf
    refine Jw_callV2 (q9 := (RX6, TX6, 7)) moX6_walks jw_ml_L_60 jw_im_X6_walks jw_se_X6_walks hx rfl rfl dL_law_518 (w_X6_walks_znew 999 _ ax _ _ fs tl f j A (by decide) hW hx hO hF hA hgj hj c1 c2 c3 c4 hf hty4 hA5 (by omega) (by omega)) (by decide) (by omega) (by omega) (Nat.le_of_ble_eq_true rfl) (fun r V3 h => ?_)
    obtain ⟨⟨hW2, he, y1, rfl, -, -, hy1⟩, hTL, ⟨f2, hA2, h2, h3⟩, hTF⟩ := h
    obtain ⟨hG2, hg2⟩ := jphi.fresh hO hF hA2 hgs hsum he.1 (jle9.of he (jnot_of rfl)) hW2 hj hf h2 h3
    exact J.less (kc' := 5 * N + 8 * (G - 2)) (ks' := 491 * N + 20013 * (G - 2)) (by omega) (by omega) (K _ (G - 2) _ (Or.inl ⟨hR, by rw [hgi]; exact hy1⟩) hW2 (hx.mono he.1) (hm.mono he.1) hg2 ⟨hTL, hc.2.keep he (jdis_of rfl)⟩ (by omega))
  | some t =>
    refine Jw_callV2 (q9 := (RX6, TX6, 7)) moX6_walks jw_ml_L_60 jw_im_X6_walks jw_se_X6_walks hx rfl rfl dL_law_518 (w_X6_walks_zold 999 _ ax _ _ fs tl f j A t (by decide) hW hx hO hF hA hgj hj c1 c2 c3 c4 hf hty4 hA5 (by omega) (by omega)) (by decide) (Nat.zero_le _) (Nat.zero_le _) (Nat.le_of_ble_eq_true rfl) (fun r V3 h => ?_)
    obtain ⟨⟨hW2, he, y1, rfl, -, -, hy1⟩, hTL⟩ := h
    exact J.less (kc' := 5 * N + 8 * (G)) (ks' := 491 * N + 20013 * (G)) (by omega) (by omega) (K _ (G) _ (Or.inl ⟨hR, by rw [hgi]; exact hy1⟩) hW2 (hx.mono he.1) (hm.mono he.1) (hg.keep he (jnot_of rfl) (jnot_of rfl)) ⟨hTL, hc.2.keep he (jdis_of rfl)⟩ (Nat.le_refl _))
set_option maxRecDepth 100000 in
set_option maxHeartbeats 4000000 in
theorem lawc_12 {tS : jTS} {b L : Nat} {xs : Nat → Int32} (hs9 : tS.2 = some (b, L, xs)) (V : jH) (ax am : Nat) (i : Int32) (G N : Nat) {Q : Option Value → jH → Prop} (hW : WT V) (hx : jis V (.inr 4) ax) (hm : jis V (.inr 5) am) (hg : jphi V ax G) (hc : jTC V ax am) (hin1 : vp_in (i + 1) L) (hin2 : vp_in (i + 2) L) (hin3 : vp_in (i + 3) L) (kk : ∀ (V2 : jH) (G2 : Nat), WT V2 → jis V2 (.inr 4) ax → jis V2 (.inr 5) am → jphi V2 ax G2 → jTC V2 ax am → G2 ≤ G → J tS mL_law 1000 908 [some (.ref b), some (.ref ax), some (.ref am), some (.int i)] [] V2 (5 * N + 8 * G2) (491 * N + 20013 * G2) Q) : J tS mL_law 1000 540 [some (.ref b), some (.ref ax), some (.ref am), some (.int i)] [] V (5 * (N + 1) + 8 * G) (491 * (N + 1) + 20013 * G) Q := by
  refine J_aload_n dL_law_540 rfl ?_
  refine J_aload_n dL_law_541 rfl ?_
  refine J_iload_n dL_law_542 rfl ?_
  refine J_iconst (v := 1) dL_law_543 (by decide) ?_
  refine J_iadd dL_law_544 ?_
  refine J_sld hs9 dL_law_545 hin1 ?_
  refine J_aload_n dL_law_546 rfl ?_
  refine J_iload_n dL_law_547 rfl ?_
  refine J_iconst (v := 2) dL_law_548 (by decide) ?_
  refine J_iadd dL_law_549 ?_
  refine J_sld hs9 dL_law_550 hin2 ?_
  have K : ∀ (V2 : jH) (G2 : Nat) (y1 : Int64), (((0 ≤ (xs (i + 1).toNatClampNeg).toInt ∧ (xs (i + 1).toNatClampNeg).toInt ≤ 3 ∧ 0 ≤ (xs (i + 2).toNatClampNeg).toInt ∧ (xs (i + 2).toNatClampNeg).toInt ≤ 20) ∧ ((jTT (xs (i + 1).toNatClampNeg).toInt (xs (i + 2).toNatClampNeg).toInt.toNat jL0 ≤ 600000 ∧ y1 = (jrq (xs (i + 1).toNatClampNeg).toInt (xs (i + 2).toNatClampNeg).toInt.toNat).2.1) ∨ (600000 < jTT (xs (i + 1).toNatClampNeg).toInt (xs (i + 2).toNatClampNeg).toInt.toNat jL0 ∧ y1 = -5))) ∨ (¬ (0 ≤ (xs (i + 1).toNatClampNeg).toInt ∧ (xs (i + 1).toNatClampNeg).toInt ≤ 3 ∧ 0 ≤ (xs (i + 2).toNatClampNeg).toInt ∧ (xs (i + 2).toNatClampNeg).toInt ≤ 20) ∧ y1 = -2)) → WT V2 → jis V2 (.inr 4) ax → jis V2 (.inr 5) am → jphi V2 ax G2 → jTC V2 ax am → G2 ≤ G → J tS mL_law 1000 554 [some (.ref b), some (.ref ax), some (.ref am), some (.int i)] [.long y1] V2 (5 * N + 8 * G2) (491 * N + 20013 * G2) Q := by
    intro V2 G2 y1 hy1 hW hx hm hg hc hG2
    refine J_pop2L dL_law_554 rfl ?_
    refine J_aload_n dL_law_555 rfl ?_
    refine J_aload_n dL_law_556 rfl ?_
    refine J_iload_n dL_law_557 rfl ?_
    refine J_iconst (v := 1) dL_law_558 (by decide) ?_
    refine J_iadd dL_law_559 ?_
    refine J_sld hs9 dL_law_560 hin1 ?_
    refine J_aload_n dL_law_561 rfl ?_
    refine J_iload_n dL_law_562 rfl ?_
    refine J_iconst (v := 2) dL_law_563 (by decide) ?_
    refine J_iadd dL_law_564 ?_
    refine J_sld hs9 dL_law_565 hin2 ?_
    refine Jw_callV2 (q9 := (RX7, TX7, 34)) moX7_squares jw_ml_L_68 jw_im_X7_squares jw_se_X7_squares hm rfl rfl dL_law_566 (w_X7_squares_z 999 _ am (xs (i + 1).toNatClampNeg) (xs (i + 2).toNatClampNeg) (by decide) hW hm hc.2) (by decide) (Nat.zero_le _) (Nat.zero_le _) (Nat.le_of_ble_eq_true rfl) (fun r V3 h => ?_)
    obtain ⟨⟨hW, he, y2, rfl, hy2⟩, hRM, hkp⟩ := h
    have hx := hx.mono he.1
    have hm := hm.mono he.1
    have hg := hg.keep he (jnot_of rfl) (jnot_of rfl)
    have hc : jTC V3 ax am := ⟨hc.1.keep he (jdis_of rfl), hRM⟩
    have hyL : y1 = y2 := by
      rcases hy1 with ⟨p1, p2⟩ | ⟨p1, p2⟩
      · rcases hy2 with ⟨p3, p4⟩ | ⟨p3, p4⟩
        · rcases p2 with ⟨p5, p6⟩ | ⟨p5, p6⟩
          · rcases p4 with ⟨p7, p8⟩ | ⟨p7, p8⟩
            · exact p6.trans p8.symm
            · exact absurd p7 (by omega)
          · rcases p4 with ⟨p7, p8⟩ | ⟨p7, p8⟩
            · exact absurd p7 (by omega)
            · exact p6.trans p8.symm
        · exact absurd p1 p3
      · rcases hy2 with ⟨p3, p4⟩ | ⟨p3, p4⟩
        · exact absurd p3 p1
        · exact p2.trans p4.symm
    refine J_pop2L dL_law_569 rfl ?_
    refine J_goto (tgt := 908) dL_law_570 (by decide) ?_
    exact J.less (kc' := 5 * N + 8 * G2) (ks' := 491 * N + 20013 * G2) (by omega) (by omega) (kk _ G2 hW hx hm hg hc hG2)
  by_cases c1 : (xs (i + 1).toNatClampNeg) < 0
  · refine Jw_callV2 (q9 := (RX6, TX6, 7)) moX6_squares jw_ml_L_64 jw_im_X6_squares jw_se_X6_squares hx rfl rfl dL_law_551 (w_X6_squares_zbad 999 _ ax _ _ (by decide) hW hx (Or.inl c1)) (by decide) (Nat.zero_le _) (Nat.zero_le _) (Nat.le_of_ble_eq_true rfl) (fun r V3 h => ?_)
    obtain ⟨⟨y1, rfl, hy1⟩, hE⟩ := h
    have hE := hE.symm
    subst hE
    exact J.less (kc' := 5 * N + 8 * (G)) (ks' := 491 * N + 20013 * (G)) (by omega) (by omega) (K _ (G) _ (Or.inr ⟨(fun q => by rw [jlt] at c1; have q9 : (0 : Int32).toInt = 0 := rfl; omega), hy1⟩) hW hx hm hg hc (Nat.le_refl _))
  by_cases c2 : Int32.ofNat 4 ≤ (xs (i + 1).toNatClampNeg)
  · refine Jw_callV2 (q9 := (RX6, TX6, 7)) moX6_squares jw_ml_L_64 jw_im_X6_squares jw_se_X6_squares hx rfl rfl dL_law_551 (w_X6_squares_zbad 999 _ ax _ _ (by decide) hW hx (Or.inr (Or.inl c2))) (by decide) (Nat.zero_le _) (Nat.zero_le _) (Nat.le_of_ble_eq_true rfl) (fun r V3 h => ?_)
    obtain ⟨⟨y1, rfl, hy1⟩, hE⟩ := h
    have hE := hE.symm
    subst hE
    exact J.less (kc' := 5 * N + 8 * (G)) (ks' := 491 * N + 20013 * (G)) (by omega) (by omega) (K _ (G) _ (Or.inr ⟨(fun q => by rw [jle] at c2; have q9 : (Int32.ofNat 4).toInt = 4 := rfl; omega), hy1⟩) hW hx hm hg hc (Nat.le_refl _))
  by_cases c3 : (xs (i + 2).toNatClampNeg) < 0
  · refine Jw_callV2 (q9 := (RX6, TX6, 7)) moX6_squares jw_ml_L_64 jw_im_X6_squares jw_se_X6_squares hx rfl rfl dL_law_551 (w_X6_squares_zbad 999 _ ax _ _ (by decide) hW hx (Or.inr (Or.inr (Or.inl c3)))) (by decide) (Nat.zero_le _) (Nat.zero_le _) (Nat.le_of_ble_eq_true rfl) (fun r V3 h => ?_)
    obtain ⟨⟨y1, rfl, hy1⟩, hE⟩ := h
    have hE := hE.symm
    subst hE
    exact J.less (kc' := 5 * N + 8 * (G)) (ks' := 491 * N + 20013 * (G)) (by omega) (by omega) (K _ (G) _ (Or.inr ⟨(fun q => by rw [jlt] at c3; have q9 : (0 : Int32).toInt = 0 := rfl; omega), hy1⟩) hW hx hm hg hc (Nat.le_refl _))
  by_cases c4 : (xs (i + 2).toNatClampNeg) ≤ 20
  rotate_left
  · refine Jw_callV2 (q9 := (RX6, TX6, 7)) moX6_squares jw_ml_L_64 jw_im_X6_squares jw_se_X6_squares hx rfl rfl dL_law_551 (w_X6_squares_zbad 999 _ ax _ _ (by decide) hW hx (Or.inr (Or.inr (Or.inr c4)))) (by decide) (Nat.zero_le _) (Nat.zero_le _) (Nat.le_of_ble_eq_true rfl) (fun r V3 h => ?_)
    obtain ⟨⟨y1, rfl, hy1⟩, hE⟩ := h
    have hE := hE.symm
    subst hE
    exact J.less (kc' := 5 * N + 8 * (G)) (ks' := 491 * N + 20013 * (G)) (by omega) (by omega) (K _ (G) _ (Or.inr ⟨(fun q => by rw [jle] at c4; have q9 : (20 : Int32).toInt = 20 := rfl; omega), hy1⟩) hW hx hm hg hc (Nat.le_refl _))
  have hR : (0 ≤ (xs (i + 1).toNatClampNeg).toInt ∧ (xs (i + 1).toNatClampNeg).toInt ≤ 3 ∧ 0 ≤ (xs (i + 2).toNatClampNeg).toInt ∧ (xs (i + 2).toNatClampNeg).toInt ≤ 20) := by
    have c1i := c1
    have c2i := c2
    have c3i := c3
    have c4i := c4
    rw [jlt] at c1i c3i
    rw [jle] at c2i c4i
    have q9 : (0 : Int32).toInt = 0 := rfl
    have q8 : (Int32.ofNat 4).toInt = 4 := rfl
    have q7 : (0 : Int32).toInt = 0 := rfl
    have q6 : (20 : Int32).toInt = 20 := rfl
    omega
  obtain ⟨fs, tl, f, g, hO, hF, hA, hgs, hsum⟩ := id hg
  obtain ⟨j, hj, hgj⟩ := vp_in_of (vp_in_g c1 c2 (by decide)) (by decide)
  obtain ⟨fs8, tl8, f8, A, v1, v2, v3, hty4, hA5⟩ := id hc.1
  cases hO.symm.trans v1
  cases hF.symm.trans v2
  cases hA.symm.trans v3
  have hgi : (xs (i + 1).toNatClampNeg).toInt = (j : Int) := by rw [hgj]; exact nI_toInt (by omega)
  cases hf : f j with
  | none =>
    have hroom := jg_none hgs hsum hj hf
    refine Jw_callV2 (q9 := (RX6, TX6, 7)) moX6_squares jw_ml_L_64 jw_im_X6_squares jw_se_X6_squares hx rfl rfl dL_law_551 (w_X6_squares_znew 999 _ ax _ _ fs tl f j A (by decide) hW hx hO hF hA hgj hj c1 c2 c3 c4 hf hty4 hA5 (by omega) (by omega)) (by decide) (by omega) (by omega) (Nat.le_of_ble_eq_true rfl) (fun r V3 h => ?_)
    obtain ⟨⟨hW2, he, y1, rfl, hy1⟩, hTL, ⟨f2, hA2, h2, h3⟩, hTF⟩ := h
    obtain ⟨hG2, hg2⟩ := jphi.fresh hO hF hA2 hgs hsum he.1 (jle9.of he (jnot_of rfl)) hW2 hj hf h2 h3
    exact J.less (kc' := 5 * N + 8 * (G - 2)) (ks' := 491 * N + 20013 * (G - 2)) (by omega) (by omega) (K _ (G - 2) _ (Or.inl ⟨hR, by rw [hgi]; exact hy1⟩) hW2 (hx.mono he.1) (hm.mono he.1) hg2 ⟨hTL, hc.2.keep he (jdis_of rfl)⟩ (by omega))
  | some t =>
    refine Jw_callV2 (q9 := (RX6, TX6, 7)) moX6_squares jw_ml_L_64 jw_im_X6_squares jw_se_X6_squares hx rfl rfl dL_law_551 (w_X6_squares_zold 999 _ ax _ _ fs tl f j A t (by decide) hW hx hO hF hA hgj hj c1 c2 c3 c4 hf hty4 hA5 (by omega) (by omega)) (by decide) (Nat.zero_le _) (Nat.zero_le _) (Nat.le_of_ble_eq_true rfl) (fun r V3 h => ?_)
    obtain ⟨⟨hW2, he, y1, rfl, hy1⟩, hTL⟩ := h
    exact J.less (kc' := 5 * N + 8 * (G)) (ks' := 491 * N + 20013 * (G)) (by omega) (by omega) (K _ (G) _ (Or.inl ⟨hR, by rw [hgi]; exact hy1⟩) hW2 (hx.mono he.1) (hm.mono he.1) (hg.keep he (jnot_of rfl) (jnot_of rfl)) ⟨hTL, hc.2.keep he (jdis_of rfl)⟩ (Nat.le_refl _))
set_option maxRecDepth 100000 in
set_option maxHeartbeats 4000000 in
theorem lawc_13 {tS : jTS} {b L : Nat} {xs : Nat → Int32} (hs9 : tS.2 = some (b, L, xs)) (V : jH) (ax am : Nat) (i : Int32) (G N : Nat) {Q : Option Value → jH → Prop} (hW : WT V) (hx : jis V (.inr 4) ax) (hm : jis V (.inr 5) am) (hg : jphi V ax G) (hc : jTC V ax am) (hin1 : vp_in (i + 1) L) (hin2 : vp_in (i + 2) L) (hin3 : vp_in (i + 3) L) (kk : ∀ (V2 : jH) (G2 : Nat), WT V2 → jis V2 (.inr 4) ax → jis V2 (.inr 5) am → jphi V2 ax G2 → jTC V2 ax am → G2 ≤ G → J tS mL_law 1000 908 [some (.ref b), some (.ref ax), some (.ref am), some (.int i)] [] V2 (5 * N + 8 * G2) (491 * N + 20013 * G2) Q) : J tS mL_law 1000 573 [some (.ref b), some (.ref ax), some (.ref am), some (.int i)] [] V (5 * (N + 1) + 8 * G) (491 * (N + 1) + 20013 * G) Q := by
  refine J_aload_n dL_law_573 rfl ?_
  refine J_aload_n dL_law_574 rfl ?_
  refine J_iload_n dL_law_575 rfl ?_
  refine J_iconst (v := 1) dL_law_576 (by decide) ?_
  refine J_iadd dL_law_577 ?_
  refine J_sld hs9 dL_law_578 hin1 ?_
  refine J_aload_n dL_law_579 rfl ?_
  refine J_iload_n dL_law_580 rfl ?_
  refine J_iconst (v := 2) dL_law_581 (by decide) ?_
  refine J_iadd dL_law_582 ?_
  refine J_sld hs9 dL_law_583 hin2 ?_
  have K : ∀ (V2 : jH) (G2 : Nat) (y1 : Int32), (((0 ≤ (xs (i + 1).toNatClampNeg).toInt ∧ (xs (i + 1).toNatClampNeg).toInt ≤ 3 ∧ 3 ≤ (xs (i + 2).toNatClampNeg).toInt ∧ (xs (i + 2).toNatClampNeg).toInt ≤ 20) ∧ ((jTT (xs (i + 1).toNatClampNeg).toInt ((xs (i + 2).toNatClampNeg).toInt - 1).toNat jL0 ≤ 600000 ∧ y1 = (jrq (xs (i + 1).toNatClampNeg).toInt ((xs (i + 2).toNatClampNeg).toInt - 1).toNat).2.2.1) ∨ (600000 < jTT (xs (i + 1).toNatClampNeg).toInt ((xs (i + 2).toNatClampNeg).toInt - 1).toNat jL0 ∧ y1.toInt = -5))) ∨ (¬ (0 ≤ (xs (i + 1).toNatClampNeg).toInt ∧ (xs (i + 1).toNatClampNeg).toInt ≤ 3 ∧ 3 ≤ (xs (i + 2).toNatClampNeg).toInt ∧ (xs (i + 2).toNatClampNeg).toInt ≤ 20) ∧ y1.toInt = -2)) → WT V2 → jis V2 (.inr 4) ax → jis V2 (.inr 5) am → jphi V2 ax G2 → jTC V2 ax am → G2 ≤ G → J tS mL_law 1000 587 [some (.ref b), some (.ref ax), some (.ref am), some (.int i)] [.int y1] V2 (5 * N + 8 * G2) (491 * N + 20013 * G2) Q := by
    intro V2 G2 y1 hy1 hW hx hm hg hc hG2
    refine J_pop dL_law_587 rfl ?_
    refine J_aload_n dL_law_588 rfl ?_
    refine J_aload_n dL_law_589 rfl ?_
    refine J_iload_n dL_law_590 rfl ?_
    refine J_iconst (v := 1) dL_law_591 (by decide) ?_
    refine J_iadd dL_law_592 ?_
    refine J_sld hs9 dL_law_593 hin1 ?_
    refine J_aload_n dL_law_594 rfl ?_
    refine J_iload_n dL_law_595 rfl ?_
    refine J_iconst (v := 2) dL_law_596 (by decide) ?_
    refine J_iadd dL_law_597 ?_
    refine J_sld hs9 dL_law_598 hin2 ?_
    refine Jw_callV2 (q9 := (RX7, TX7, 34)) moX7_rings jw_ml_L_72 jw_im_X7_rings jw_se_X7_rings hm rfl rfl dL_law_599 (w_X7_rings_z 999 _ am (xs (i + 1).toNatClampNeg) (xs (i + 2).toNatClampNeg) (by decide) hW hm hc.2) (by decide) (Nat.zero_le _) (Nat.zero_le _) (Nat.le_of_ble_eq_true rfl) (fun r V3 h => ?_)
    obtain ⟨⟨hW, he, y2, rfl, -, -, hy2⟩, hRM, hkp⟩ := h
    have hx := hx.mono he.1
    have hm := hm.mono he.1
    have hg := hg.keep he (jnot_of rfl) (jnot_of rfl)
    have hc : jTC V3 ax am := ⟨hc.1.keep he (jdis_of rfl), hRM⟩
    have hyA : y1.toInt = y2.toInt := by
      rcases hy1 with ⟨p1, p2⟩ | ⟨p1, p2⟩
      · rcases hy2 with ⟨p3, p4⟩ | ⟨p3, p4⟩
        · rcases p2 with ⟨p5, p6⟩ | ⟨p5, p6⟩
          · rcases p4 with ⟨p7, p8⟩ | ⟨p7, p8⟩
            · exact congrArg Int32.toInt (p6.trans p8.symm)
            · exact absurd p7 (by omega)
          · rcases p4 with ⟨p7, p8⟩ | ⟨p7, p8⟩
            · exact absurd p7 (by omega)
            · exact p6.trans p8.symm
        · exact absurd p1 p3
      · rcases hy2 with ⟨p3, p4⟩ | ⟨p3, p4⟩
        · exact absurd p3 p1
        · exact p2.trans p4.symm
    refine J_pop dL_law_602 rfl ?_
    refine J_goto (tgt := 908) dL_law_603 (by decide) ?_
    exact J.less (kc' := 5 * N + 8 * G2) (ks' := 491 * N + 20013 * G2) (by omega) (by omega) (kk _ G2 hW hx hm hg hc hG2)
  by_cases c1 : (xs (i + 1).toNatClampNeg) < 0
  · refine Jw_callV2 (q9 := (RX6, TX6, 7)) moX6_rings jw_ml_L_69 jw_im_X6_rings jw_se_X6_rings hx rfl rfl dL_law_584 (w_X6_rings_zbad 999 _ ax _ _ (by decide) hW hx (Or.inl c1)) (by decide) (Nat.zero_le _) (Nat.zero_le _) (Nat.le_of_ble_eq_true rfl) (fun r V3 h => ?_)
    obtain ⟨⟨y1, rfl, -, -, hy1⟩, hE⟩ := h
    have hE := hE.symm
    subst hE
    exact J.less (kc' := 5 * N + 8 * (G)) (ks' := 491 * N + 20013 * (G)) (by omega) (by omega) (K _ (G) _ (Or.inr ⟨(fun q => by rw [jlt] at c1; have q9 : (0 : Int32).toInt = 0 := rfl; omega), hy1⟩) hW hx hm hg hc (Nat.le_refl _))
  by_cases c2 : Int32.ofNat 4 ≤ (xs (i + 1).toNatClampNeg)
  · refine Jw_callV2 (q9 := (RX6, TX6, 7)) moX6_rings jw_ml_L_69 jw_im_X6_rings jw_se_X6_rings hx rfl rfl dL_law_584 (w_X6_rings_zbad 999 _ ax _ _ (by decide) hW hx (Or.inr (Or.inl c2))) (by decide) (Nat.zero_le _) (Nat.zero_le _) (Nat.le_of_ble_eq_true rfl) (fun r V3 h => ?_)
    obtain ⟨⟨y1, rfl, -, -, hy1⟩, hE⟩ := h
    have hE := hE.symm
    subst hE
    exact J.less (kc' := 5 * N + 8 * (G)) (ks' := 491 * N + 20013 * (G)) (by omega) (by omega) (K _ (G) _ (Or.inr ⟨(fun q => by rw [jle] at c2; have q9 : (Int32.ofNat 4).toInt = 4 := rfl; omega), hy1⟩) hW hx hm hg hc (Nat.le_refl _))
  by_cases c3 : (xs (i + 2).toNatClampNeg) < 3
  · refine Jw_callV2 (q9 := (RX6, TX6, 7)) moX6_rings jw_ml_L_69 jw_im_X6_rings jw_se_X6_rings hx rfl rfl dL_law_584 (w_X6_rings_zbad 999 _ ax _ _ (by decide) hW hx (Or.inr (Or.inr (Or.inl c3)))) (by decide) (Nat.zero_le _) (Nat.zero_le _) (Nat.le_of_ble_eq_true rfl) (fun r V3 h => ?_)
    obtain ⟨⟨y1, rfl, -, -, hy1⟩, hE⟩ := h
    have hE := hE.symm
    subst hE
    exact J.less (kc' := 5 * N + 8 * (G)) (ks' := 491 * N + 20013 * (G)) (by omega) (by omega) (K _ (G) _ (Or.inr ⟨(fun q => by rw [jlt] at c3; have q9 : (3 : Int32).toInt = 3 := rfl; omega), hy1⟩) hW hx hm hg hc (Nat.le_refl _))
  by_cases c4 : (xs (i + 2).toNatClampNeg) ≤ 20
  rotate_left
  · refine Jw_callV2 (q9 := (RX6, TX6, 7)) moX6_rings jw_ml_L_69 jw_im_X6_rings jw_se_X6_rings hx rfl rfl dL_law_584 (w_X6_rings_zbad 999 _ ax _ _ (by decide) hW hx (Or.inr (Or.inr (Or.inr c4)))) (by decide) (Nat.zero_le _) (Nat.zero_le _) (Nat.le_of_ble_eq_true rfl) (fun r V3 h => ?_)
    obtain ⟨⟨y1, rfl, -, -, hy1⟩, hE⟩ := h
    have hE := hE.symm
    subst hE
    exact J.less (kc' := 5 * N + 8 * (G)) (ks' := 491 * N + 20013 * (G)) (by omega) (by omega) (K _ (G) _ (Or.inr ⟨(fun q => by rw [jle] at c4; have q9 : (20 : Int32).toInt = 20 := rfl; omega), hy1⟩) hW hx hm hg hc (Nat.le_refl _))
  have hR : (0 ≤ (xs (i + 1).toNatClampNeg).toInt ∧ (xs (i + 1).toNatClampNeg).toInt ≤ 3 ∧ 3 ≤ (xs (i + 2).toNatClampNeg).toInt ∧ (xs (i + 2).toNatClampNeg).toInt ≤ 20) := by
    have c1i := c1
    have c2i := c2
    have c3i := c3
    have c4i := c4
    rw [jlt] at c1i c3i
    rw [jle] at c2i c4i
    have q9 : (0 : Int32).toInt = 0 := rfl
    have q8 : (Int32.ofNat 4).toInt = 4 := rfl
    have q7 : (3 : Int32).toInt = 3 := rfl
    have q6 : (20 : Int32).toInt = 20 := rfl
    omega
  obtain ⟨fs, tl, f, g, hO, hF, hA, hgs, hsum⟩ := id hg
  obtain ⟨j, hj, hgj⟩ := vp_in_of (vp_in_g c1 c2 (by decide)) (by decide)
  obtain ⟨fs8, tl8, f8, A, v1, v2, v3, hty4, hA5⟩ := id hc.1
  cases hO.symm.trans v1
  cases hF.symm.trans v2
  cases hA.symm.trans v3
  have hgi : (xs (i + 1).toNatClampNeg).toInt = (j : Int) := by rw [hgj]; exact nI_toInt (by omega)
  cases hf : f j with
  | none =>
    have hroom := jg_none hgs hsum hj hf
    refine Jw_callV2 (q9 := (RX6, TX6, 7)) moX6_rings jw_ml_L_69 jw_im_X6_rings jw_se_X6_rings hx rfl rfl dL_law_584 (w_X6_rings_znew 999 _ ax _ _ fs tl f j A (by decide) hW hx hO hF hA hgj hj c1 c2 c3 c4 hf hty4 hA5 (by omega) (by omega)) (by decide) (by omega) (by omega) (Nat.le_of_ble_eq_true rfl) (fun r V3 h => ?_)
    obtain ⟨⟨hW2, he, y1, rfl, -, -, hy1⟩, hTL, ⟨f2, hA2, h2, h3⟩, hTF⟩ := h
    obtain ⟨hG2, hg2⟩ := jphi.fresh hO hF hA2 hgs hsum he.1 (jle9.of he (jnot_of rfl)) hW2 hj hf h2 h3
    exact J.less (kc' := 5 * N + 8 * (G - 2)) (ks' := 491 * N + 20013 * (G - 2)) (by omega) (by omega) (K _ (G - 2) _ (Or.inl ⟨hR, by rw [hgi]; exact hy1⟩) hW2 (hx.mono he.1) (hm.mono he.1) hg2 ⟨hTL, hc.2.keep he (jdis_of rfl)⟩ (by omega))
  | some t =>
    refine Jw_callV2 (q9 := (RX6, TX6, 7)) moX6_rings jw_ml_L_69 jw_im_X6_rings jw_se_X6_rings hx rfl rfl dL_law_584 (w_X6_rings_zold 999 _ ax _ _ fs tl f j A t (by decide) hW hx hO hF hA hgj hj c1 c2 c3 c4 hf hty4 hA5 (by omega) (by omega)) (by decide) (Nat.zero_le _) (Nat.zero_le _) (Nat.le_of_ble_eq_true rfl) (fun r V3 h => ?_)
    obtain ⟨⟨hW2, he, y1, rfl, -, -, hy1⟩, hTL⟩ := h
    exact J.less (kc' := 5 * N + 8 * (G)) (ks' := 491 * N + 20013 * (G)) (by omega) (by omega) (K _ (G) _ (Or.inl ⟨hR, by rw [hgi]; exact hy1⟩) hW2 (hx.mono he.1) (hm.mono he.1) (hg.keep he (jnot_of rfl) (jnot_of rfl)) ⟨hTL, hc.2.keep he (jdis_of rfl)⟩ (Nat.le_refl _))
set_option maxRecDepth 100000 in
set_option maxHeartbeats 4000000 in
theorem lawc_14 {tS : jTS} {b L : Nat} {xs : Nat → Int32} (hs9 : tS.2 = some (b, L, xs)) (V : jH) (ax am : Nat) (i : Int32) (G N : Nat) {Q : Option Value → jH → Prop} (hW : WT V) (hx : jis V (.inr 4) ax) (hm : jis V (.inr 5) am) (hg : jphi V ax G) (hc : jTC V ax am) (hin1 : vp_in (i + 1) L) (hin2 : vp_in (i + 2) L) (hin3 : vp_in (i + 3) L) (kk : ∀ (V2 : jH) (G2 : Nat), WT V2 → jis V2 (.inr 4) ax → jis V2 (.inr 5) am → jphi V2 ax G2 → jTC V2 ax am → G2 ≤ G → J tS mL_law 1000 908 [some (.ref b), some (.ref ax), some (.ref am), some (.int i)] [] V2 (5 * N + 8 * G2) (491 * N + 20013 * G2) Q) : J tS mL_law 1000 606 [some (.ref b), some (.ref ax), some (.ref am), some (.int i)] [] V (5 * (N + 1) + 8 * G) (491 * (N + 1) + 20013 * G) Q := by
  refine J_aload_n dL_law_606 rfl ?_
  refine J_aload_n dL_law_607 rfl ?_
  refine J_iload_n dL_law_608 rfl ?_
  refine J_iconst (v := 1) dL_law_609 (by decide) ?_
  refine J_iadd dL_law_610 ?_
  refine J_sld hs9 dL_law_611 hin1 ?_
  refine J_aload_n dL_law_612 rfl ?_
  refine J_iload_n dL_law_613 rfl ?_
  refine J_iconst (v := 2) dL_law_614 (by decide) ?_
  refine J_iadd dL_law_615 ?_
  refine J_sld hs9 dL_law_616 hin2 ?_
  have K : ∀ (V2 : jH) (G2 : Nat) (y1 : Int32), (((0 ≤ (xs (i + 1).toNatClampNeg).toInt ∧ (xs (i + 1).toNatClampNeg).toInt ≤ 3 ∧ 1 ≤ (xs (i + 2).toNatClampNeg).toInt ∧ (xs (i + 2).toNatClampNeg).toInt ≤ 20) ∧ ((jTT (xs (i + 1).toNatClampNeg).toInt (xs (i + 2).toNatClampNeg).toInt.toNat jL0 ≤ 600000 ∧ y1 = (jrq (xs (i + 1).toNatClampNeg).toInt (xs (i + 2).toNatClampNeg).toInt.toNat).2.2.2) ∨ (600000 < jTT (xs (i + 1).toNatClampNeg).toInt (xs (i + 2).toNatClampNeg).toInt.toNat jL0 ∧ y1.toInt = -5))) ∨ (¬ (0 ≤ (xs (i + 1).toNatClampNeg).toInt ∧ (xs (i + 1).toNatClampNeg).toInt ≤ 3 ∧ 1 ≤ (xs (i + 2).toNatClampNeg).toInt ∧ (xs (i + 2).toNatClampNeg).toInt ≤ 20) ∧ y1.toInt = -2)) → WT V2 → jis V2 (.inr 4) ax → jis V2 (.inr 5) am → jphi V2 ax G2 → jTC V2 ax am → G2 ≤ G → J tS mL_law 1000 620 [some (.ref b), some (.ref ax), some (.ref am), some (.int i)] [.int y1] V2 (5 * N + 8 * G2) (491 * N + 20013 * G2) Q := by
    intro V2 G2 y1 hy1 hW hx hm hg hc hG2
    refine J_aload_n dL_law_620 rfl ?_
    refine J_aload_n dL_law_621 rfl ?_
    refine J_iload_n dL_law_622 rfl ?_
    refine J_iconst (v := 1) dL_law_623 (by decide) ?_
    refine J_iadd dL_law_624 ?_
    refine J_sld hs9 dL_law_625 hin1 ?_
    refine J_aload_n dL_law_626 rfl ?_
    refine J_iload_n dL_law_627 rfl ?_
    refine J_iconst (v := 2) dL_law_628 (by decide) ?_
    refine J_iadd dL_law_629 ?_
    refine J_sld hs9 dL_law_630 hin2 ?_
    refine Jw_callV2 (q9 := (RX7, TX7, 34)) moX7_bridges jw_ml_L_76 jw_im_X7_bridges jw_se_X7_bridges hm rfl rfl dL_law_631 (w_X7_bridges_z 999 _ am (xs (i + 1).toNatClampNeg) (xs (i + 2).toNatClampNeg) (by decide) hW hm hc.2) (by decide) (Nat.zero_le _) (Nat.zero_le _) (Nat.le_of_ble_eq_true rfl) (fun r V3 h => ?_)
    obtain ⟨⟨hW, he, y2, rfl, -, -, hy2⟩, hRM, hkp⟩ := h
    have hx := hx.mono he.1
    have hm := hm.mono he.1
    have hg := hg.keep he (jnot_of rfl) (jnot_of rfl)
    have hc : jTC V3 ax am := ⟨hc.1.keep he (jdis_of rfl), hRM⟩
    have hyA : y1.toInt = y2.toInt := by
      rcases hy1 with ⟨p1, p2⟩ | ⟨p1, p2⟩
      · rcases hy2 with ⟨p3, p4⟩ | ⟨p3, p4⟩
        · rcases p2 with ⟨p5, p6⟩ | ⟨p5, p6⟩
          · rcases p4 with ⟨p7, p8⟩ | ⟨p7, p8⟩
            · exact congrArg Int32.toInt (p6.trans p8.symm)
            · exact absurd p7 (by omega)
          · rcases p4 with ⟨p7, p8⟩ | ⟨p7, p8⟩
            · exact absurd p7 (by omega)
            · exact p6.trans p8.symm
        · exact absurd p1 p3
      · rcases hy2 with ⟨p3, p4⟩ | ⟨p3, p4⟩
        · exact absurd p3 p1
        · exact p2.trans p4.symm
    refine J_icmp_eq (tgt := 908) dL_law_634 (by decide) (fun _ => ?_) (fun c => absurd (jI_inj.mp (show y1.toInt = y2.toInt by omega)) c)
    exact J.less (kc' := 5 * N + 8 * G2) (ks' := 491 * N + 20013 * G2) (by omega) (by omega) (kk _ G2 hW hx hm hg hc hG2)
  by_cases c1 : (xs (i + 1).toNatClampNeg) < 0
  · refine Jw_callV2 (q9 := (RX6, TX6, 7)) moX6_bridges jw_ml_L_73 jw_im_X6_bridges jw_se_X6_bridges hx rfl rfl dL_law_617 (w_X6_bridges_zbad 999 _ ax _ _ (by decide) hW hx (Or.inl c1)) (by decide) (Nat.zero_le _) (Nat.zero_le _) (Nat.le_of_ble_eq_true rfl) (fun r V3 h => ?_)
    obtain ⟨⟨y1, rfl, -, -, hy1⟩, hE⟩ := h
    have hE := hE.symm
    subst hE
    exact J.less (kc' := 5 * N + 8 * (G)) (ks' := 491 * N + 20013 * (G)) (by omega) (by omega) (K _ (G) _ (Or.inr ⟨(fun q => by rw [jlt] at c1; have q9 : (0 : Int32).toInt = 0 := rfl; omega), hy1⟩) hW hx hm hg hc (Nat.le_refl _))
  by_cases c2 : Int32.ofNat 4 ≤ (xs (i + 1).toNatClampNeg)
  · refine Jw_callV2 (q9 := (RX6, TX6, 7)) moX6_bridges jw_ml_L_73 jw_im_X6_bridges jw_se_X6_bridges hx rfl rfl dL_law_617 (w_X6_bridges_zbad 999 _ ax _ _ (by decide) hW hx (Or.inr (Or.inl c2))) (by decide) (Nat.zero_le _) (Nat.zero_le _) (Nat.le_of_ble_eq_true rfl) (fun r V3 h => ?_)
    obtain ⟨⟨y1, rfl, -, -, hy1⟩, hE⟩ := h
    have hE := hE.symm
    subst hE
    exact J.less (kc' := 5 * N + 8 * (G)) (ks' := 491 * N + 20013 * (G)) (by omega) (by omega) (K _ (G) _ (Or.inr ⟨(fun q => by rw [jle] at c2; have q9 : (Int32.ofNat 4).toInt = 4 := rfl; omega), hy1⟩) hW hx hm hg hc (Nat.le_refl _))
  by_cases c3 : (xs (i + 2).toNatClampNeg) < 1
  · refine Jw_callV2 (q9 := (RX6, TX6, 7)) moX6_bridges jw_ml_L_73 jw_im_X6_bridges jw_se_X6_bridges hx rfl rfl dL_law_617 (w_X6_bridges_zbad 999 _ ax _ _ (by decide) hW hx (Or.inr (Or.inr (Or.inl c3)))) (by decide) (Nat.zero_le _) (Nat.zero_le _) (Nat.le_of_ble_eq_true rfl) (fun r V3 h => ?_)
    obtain ⟨⟨y1, rfl, -, -, hy1⟩, hE⟩ := h
    have hE := hE.symm
    subst hE
    exact J.less (kc' := 5 * N + 8 * (G)) (ks' := 491 * N + 20013 * (G)) (by omega) (by omega) (K _ (G) _ (Or.inr ⟨(fun q => by rw [jlt] at c3; have q9 : (1 : Int32).toInt = 1 := rfl; omega), hy1⟩) hW hx hm hg hc (Nat.le_refl _))
  by_cases c4 : (xs (i + 2).toNatClampNeg) ≤ 20
  rotate_left
  · refine Jw_callV2 (q9 := (RX6, TX6, 7)) moX6_bridges jw_ml_L_73 jw_im_X6_bridges jw_se_X6_bridges hx rfl rfl dL_law_617 (w_X6_bridges_zbad 999 _ ax _ _ (by decide) hW hx (Or.inr (Or.inr (Or.inr c4)))) (by decide) (Nat.zero_le _) (Nat.zero_le _) (Nat.le_of_ble_eq_true rfl) (fun r V3 h => ?_)
    obtain ⟨⟨y1, rfl, -, -, hy1⟩, hE⟩ := h
    have hE := hE.symm
    subst hE
    exact J.less (kc' := 5 * N + 8 * (G)) (ks' := 491 * N + 20013 * (G)) (by omega) (by omega) (K _ (G) _ (Or.inr ⟨(fun q => by rw [jle] at c4; have q9 : (20 : Int32).toInt = 20 := rfl; omega), hy1⟩) hW hx hm hg hc (Nat.le_refl _))
  have hR : (0 ≤ (xs (i + 1).toNatClampNeg).toInt ∧ (xs (i + 1).toNatClampNeg).toInt ≤ 3 ∧ 1 ≤ (xs (i + 2).toNatClampNeg).toInt ∧ (xs (i + 2).toNatClampNeg).toInt ≤ 20) := by
    have c1i := c1
    have c2i := c2
    have c3i := c3
    have c4i := c4
    rw [jlt] at c1i c3i
    rw [jle] at c2i c4i
    have q9 : (0 : Int32).toInt = 0 := rfl
    have q8 : (Int32.ofNat 4).toInt = 4 := rfl
    have q7 : (1 : Int32).toInt = 1 := rfl
    have q6 : (20 : Int32).toInt = 20 := rfl
    omega
  obtain ⟨fs, tl, f, g, hO, hF, hA, hgs, hsum⟩ := id hg
  obtain ⟨j, hj, hgj⟩ := vp_in_of (vp_in_g c1 c2 (by decide)) (by decide)
  obtain ⟨fs8, tl8, f8, A, v1, v2, v3, hty4, hA5⟩ := id hc.1
  cases hO.symm.trans v1
  cases hF.symm.trans v2
  cases hA.symm.trans v3
  have hgi : (xs (i + 1).toNatClampNeg).toInt = (j : Int) := by rw [hgj]; exact nI_toInt (by omega)
  cases hf : f j with
  | none =>
    have hroom := jg_none hgs hsum hj hf
    refine Jw_callV2 (q9 := (RX6, TX6, 7)) moX6_bridges jw_ml_L_73 jw_im_X6_bridges jw_se_X6_bridges hx rfl rfl dL_law_617 (w_X6_bridges_znew 999 _ ax _ _ fs tl f j A (by decide) hW hx hO hF hA hgj hj c1 c2 c3 c4 hf hty4 hA5 (by omega) (by omega)) (by decide) (by omega) (by omega) (Nat.le_of_ble_eq_true rfl) (fun r V3 h => ?_)
    obtain ⟨⟨hW2, he, y1, rfl, -, -, hy1⟩, hTL, ⟨f2, hA2, h2, h3⟩, hTF⟩ := h
    obtain ⟨hG2, hg2⟩ := jphi.fresh hO hF hA2 hgs hsum he.1 (jle9.of he (jnot_of rfl)) hW2 hj hf h2 h3
    exact J.less (kc' := 5 * N + 8 * (G - 2)) (ks' := 491 * N + 20013 * (G - 2)) (by omega) (by omega) (K _ (G - 2) _ (Or.inl ⟨hR, by rw [hgi]; exact hy1⟩) hW2 (hx.mono he.1) (hm.mono he.1) hg2 ⟨hTL, hc.2.keep he (jdis_of rfl)⟩ (by omega))
  | some t =>
    refine Jw_callV2 (q9 := (RX6, TX6, 7)) moX6_bridges jw_ml_L_73 jw_im_X6_bridges jw_se_X6_bridges hx rfl rfl dL_law_617 (w_X6_bridges_zold 999 _ ax _ _ fs tl f j A t (by decide) hW hx hO hF hA hgj hj c1 c2 c3 c4 hf hty4 hA5 (by omega) (by omega)) (by decide) (Nat.zero_le _) (Nat.zero_le _) (Nat.le_of_ble_eq_true rfl) (fun r V3 h => ?_)
    obtain ⟨⟨hW2, he, y1, rfl, -, -, hy1⟩, hTL⟩ := h
    exact J.less (kc' := 5 * N + 8 * (G)) (ks' := 491 * N + 20013 * (G)) (by omega) (by omega) (K _ (G) _ (Or.inl ⟨hR, by rw [hgi]; exact hy1⟩) hW2 (hx.mono he.1) (hm.mono he.1) (hg.keep he (jnot_of rfl) (jnot_of rfl)) ⟨hTL, hc.2.keep he (jdis_of rfl)⟩ (Nat.le_refl _))
set_option maxRecDepth 100000 in
set_option maxHeartbeats 4000000 in
theorem lawc_15 {tS : jTS} {b L : Nat} {xs : Nat → Int32} (hs9 : tS.2 = some (b, L, xs)) (V : jH) (ax am : Nat) (i : Int32) (G N : Nat) {Q : Option Value → jH → Prop} (hW : WT V) (hx : jis V (.inr 4) ax) (hm : jis V (.inr 5) am) (hg : jphi V ax G) (hc : jTC V ax am) (hin1 : vp_in (i + 1) L) (hin2 : vp_in (i + 2) L) (hin3 : vp_in (i + 3) L) (kk : ∀ (V2 : jH) (G2 : Nat), WT V2 → jis V2 (.inr 4) ax → jis V2 (.inr 5) am → jphi V2 ax G2 → jTC V2 ax am → G2 ≤ G → J tS mL_law 1000 908 [some (.ref b), some (.ref ax), some (.ref am), some (.int i)] [] V2 (5 * N + 8 * G2) (491 * N + 20013 * G2) Q) : J tS mL_law 1000 639 [some (.ref b), some (.ref ax), some (.ref am), some (.int i)] [] V (5 * (N + 1) + 8 * G) (491 * (N + 1) + 20013 * G) Q := by
  refine J_aload_n dL_law_639 rfl ?_
  refine J_aload_n dL_law_640 rfl ?_
  refine J_iload_n dL_law_641 rfl ?_
  refine J_iconst (v := 1) dL_law_642 (by decide) ?_
  refine J_iadd dL_law_643 ?_
  refine J_sld hs9 dL_law_644 hin1 ?_
  refine J_aload_n dL_law_645 rfl ?_
  refine J_iload_n dL_law_646 rfl ?_
  refine J_iconst (v := 2) dL_law_647 (by decide) ?_
  refine J_iadd dL_law_648 ?_
  refine J_sld hs9 dL_law_649 hin2 ?_
  have K : ∀ (V2 : jH) (G2 : Nat) (y1 : Int32), WT V2 → jis V2 (.inr 4) ax → jis V2 (.inr 5) am → jphi V2 ax G2 → jTC V2 ax am → G2 ≤ G → J tS mL_law 1000 653 [some (.ref b), some (.ref ax), some (.ref am), some (.int i)] [.int y1] V2 (5 * N + 8 * G2) (491 * N + 20013 * G2) Q := by
    intro V2 G2 y1 hW hx hm hg hc hG2
    refine J_pop dL_law_653 rfl ?_
    refine J_aload_n dL_law_654 rfl ?_
    refine J_aload_n dL_law_655 rfl ?_
    refine J_iload_n dL_law_656 rfl ?_
    refine J_iconst (v := 1) dL_law_657 (by decide) ?_
    refine J_iadd dL_law_658 ?_
    refine J_sld hs9 dL_law_659 hin1 ?_
    refine J_aload_n dL_law_660 rfl ?_
    refine J_iload_n dL_law_661 rfl ?_
    refine J_iconst (v := 2) dL_law_662 (by decide) ?_
    refine J_iadd dL_law_663 ?_
    refine J_sld hs9 dL_law_664 hin2 ?_
    refine Jw_callV2 (q9 := (RX7, TX7, 34)) moX7_forms jw_ml_L_80 jw_im_X7_forms jw_se_X7_forms hm rfl rfl dL_law_665 (w_X7_forms_k 999 _ am (xs (i + 1).toNatClampNeg) (xs (i + 2).toNatClampNeg) (by decide) hW hm hc.2) (by decide) (Nat.zero_le _) (Nat.zero_le _) (Nat.le_of_ble_eq_true rfl) (fun r V3 h => ?_)
    obtain ⟨⟨hW, he, y2, rfl, hy2⟩, hRM, hkp⟩ := h
    have hx := hx.mono he.1
    have hm := hm.mono he.1
    have hg := hg.keep he (jnot_of rfl) (jnot_of rfl)
    have hc : jTC V3 ax am := ⟨hc.1.keep he (jdis_of rfl), hRM⟩
    refine J_pop dL_law_668 rfl ?_
    refine J_goto (tgt := 908) dL_law_669 (by decide) ?_
    exact J.less (kc' := 5 * N + 8 * G2) (ks' := 491 * N + 20013 * G2) (by omega) (by omega) (kk _ G2 hW hx hm hg hc hG2)
  by_cases c1 : (xs (i + 1).toNatClampNeg) < 0
  · refine Jw_callV2 (q9 := (RX6, TX6, 7)) moX6_forms jw_ml_L_77 jw_im_X6_forms jw_se_X6_forms hx rfl rfl dL_law_650 (w_X6_forms_bad 999 _ ax _ _ (by decide) hW hx (Or.inl c1)) (by decide) (Nat.zero_le _) (Nat.zero_le _) (Nat.le_of_ble_eq_true rfl) (fun r V3 h => ?_)
    obtain ⟨⟨y1, rfl, hy1⟩, hE⟩ := h
    subst hE
    exact J.less (kc' := 5 * N + 8 * (G)) (ks' := 491 * N + 20013 * (G)) (by omega) (by omega) (K _ (G) _ hW hx hm hg hc (Nat.le_refl _))
  by_cases c2 : Int32.ofNat 4 ≤ (xs (i + 1).toNatClampNeg)
  · refine Jw_callV2 (q9 := (RX6, TX6, 7)) moX6_forms jw_ml_L_77 jw_im_X6_forms jw_se_X6_forms hx rfl rfl dL_law_650 (w_X6_forms_bad 999 _ ax _ _ (by decide) hW hx (Or.inr (Or.inl c2))) (by decide) (Nat.zero_le _) (Nat.zero_le _) (Nat.le_of_ble_eq_true rfl) (fun r V3 h => ?_)
    obtain ⟨⟨y1, rfl, hy1⟩, hE⟩ := h
    subst hE
    exact J.less (kc' := 5 * N + 8 * (G)) (ks' := 491 * N + 20013 * (G)) (by omega) (by omega) (K _ (G) _ hW hx hm hg hc (Nat.le_refl _))
  by_cases c3 : (xs (i + 2).toNatClampNeg) < 0
  · refine Jw_callV2 (q9 := (RX6, TX6, 7)) moX6_forms jw_ml_L_77 jw_im_X6_forms jw_se_X6_forms hx rfl rfl dL_law_650 (w_X6_forms_bad 999 _ ax _ _ (by decide) hW hx (Or.inr (Or.inr (Or.inl c3)))) (by decide) (Nat.zero_le _) (Nat.zero_le _) (Nat.le_of_ble_eq_true rfl) (fun r V3 h => ?_)
    obtain ⟨⟨y1, rfl, hy1⟩, hE⟩ := h
    subst hE
    exact J.less (kc' := 5 * N + 8 * (G)) (ks' := 491 * N + 20013 * (G)) (by omega) (by omega) (K _ (G) _ hW hx hm hg hc (Nat.le_refl _))
  by_cases c4 : (xs (i + 2).toNatClampNeg) ≤ 20
  rotate_left
  · refine Jw_callV2 (q9 := (RX6, TX6, 7)) moX6_forms jw_ml_L_77 jw_im_X6_forms jw_se_X6_forms hx rfl rfl dL_law_650 (w_X6_forms_bad 999 _ ax _ _ (by decide) hW hx (Or.inr (Or.inr (Or.inr c4)))) (by decide) (Nat.zero_le _) (Nat.zero_le _) (Nat.le_of_ble_eq_true rfl) (fun r V3 h => ?_)
    obtain ⟨⟨y1, rfl, hy1⟩, hE⟩ := h
    subst hE
    exact J.less (kc' := 5 * N + 8 * (G)) (ks' := 491 * N + 20013 * (G)) (by omega) (by omega) (K _ (G) _ hW hx hm hg hc (Nat.le_refl _))
  have hR : (0 ≤ (xs (i + 1).toNatClampNeg).toInt ∧ (xs (i + 1).toNatClampNeg).toInt ≤ 3 ∧ 0 ≤ (xs (i + 2).toNatClampNeg).toInt ∧ (xs (i + 2).toNatClampNeg).toInt ≤ 20) := by
    have c1i := c1
    have c2i := c2
    have c3i := c3
    have c4i := c4
    rw [jlt] at c1i c3i
    rw [jle] at c2i c4i
    have q9 : (0 : Int32).toInt = 0 := rfl
    have q8 : (Int32.ofNat 4).toInt = 4 := rfl
    have q7 : (0 : Int32).toInt = 0 := rfl
    have q6 : (20 : Int32).toInt = 20 := rfl
    omega
  obtain ⟨fs, tl, f, g, hO, hF, hA, hgs, hsum⟩ := id hg
  obtain ⟨j, hj, hgj⟩ := vp_in_of (vp_in_g c1 c2 (by decide)) (by decide)
  obtain ⟨fs8, tl8, f8, A, v1, v2, v3, hty4, hA5⟩ := id hc.1
  cases hO.symm.trans v1
  cases hF.symm.trans v2
  cases hA.symm.trans v3
  have hgi : (xs (i + 1).toNatClampNeg).toInt = (j : Int) := by rw [hgj]; exact nI_toInt (by omega)
  cases hf : f j with
  | none =>
    have hroom := jg_none hgs hsum hj hf
    refine Jw_callV2 (q9 := (RX6, TX6, 7)) moX6_forms jw_ml_L_77 jw_im_X6_forms jw_se_X6_forms hx rfl rfl dL_law_650 (w_X6_forms_knew 999 _ ax _ _ fs tl f j A (by decide) hW hx hO hF hA hgj hj hf c1 c2 c3 c4 hty4 hA5 (by omega) (by omega)) (by decide) (by omega) (by omega) (Nat.le_of_ble_eq_true rfl) (fun r V3 h => ?_)
    obtain ⟨⟨⟨hW2, he, ⟨y1, rfl, hy1⟩, f2, hA2, h2, h3⟩, hrt⟩, hTL⟩ := h
    obtain ⟨hG2, hg2⟩ := jphi.fresh hO hF hA2 hgs hsum he.1 (jle9.of he (jnot_of rfl)) hW2 hj hf h2 h3
    exact J.less (kc' := 5 * N + 8 * (G - 2)) (ks' := 491 * N + 20013 * (G - 2)) (by omega) (by omega) (K _ (G - 2) _ hW2 (hx.mono he.1) (hm.mono he.1) hg2 ⟨hTL, hc.2.keep he (jdis_of rfl)⟩ (by omega))
  | some t =>
    refine Jw_callV2 (q9 := (RX6, TX6, 7)) moX6_forms jw_ml_L_77 jw_im_X6_forms jw_se_X6_forms hx rfl rfl dL_law_650 (w_X6_forms_kold 999 _ ax _ _ fs tl f A (by decide) hW hx hO hF hA (fun j2 q1 q2 => ⟨t, by rw [jnI_eq q1 hgj q2 hj]; exact hf⟩) c1 c2 c3 c4 hty4 hA5 (by omega) (by omega)) (by decide) (Nat.zero_le _) (Nat.zero_le _) (Nat.le_of_ble_eq_true rfl) (fun r V3 h => ?_)
    obtain ⟨⟨⟨hW2, he, y1, rfl, hy1⟩, hrt⟩, hTL⟩ := h
    exact J.less (kc' := 5 * N + 8 * (G)) (ks' := 491 * N + 20013 * (G)) (by omega) (by omega) (K _ (G) _ hW2 (hx.mono he.1) (hm.mono he.1) (hg.keep he (jnot_of rfl) (jnot_of rfl)) ⟨hTL, hc.2.keep he (jdis_of rfl)⟩ (Nat.le_refl _))
set_option maxRecDepth 100000 in
set_option maxHeartbeats 4000000 in
theorem lawc_16 {tS : jTS} {b L : Nat} {xs : Nat → Int32} (hs9 : tS.2 = some (b, L, xs)) (V : jH) (ax am : Nat) (i : Int32) (G N : Nat) {Q : Option Value → jH → Prop} (hW : WT V) (hx : jis V (.inr 4) ax) (hm : jis V (.inr 5) am) (hg : jphi V ax G) (hc : jTC V ax am) (hin1 : vp_in (i + 1) L) (hin2 : vp_in (i + 2) L) (hin3 : vp_in (i + 3) L) (kk : ∀ (V2 : jH) (G2 : Nat), WT V2 → jis V2 (.inr 4) ax → jis V2 (.inr 5) am → jphi V2 ax G2 → jTC V2 ax am → G2 ≤ G → J tS mL_law 1000 908 [some (.ref b), some (.ref ax), some (.ref am), some (.int i)] [] V2 (5 * N + 8 * G2) (491 * N + 20013 * G2) Q) : J tS mL_law 1000 672 [some (.ref b), some (.ref ax), some (.ref am), some (.int i)] [] V (5 * (N + 1) + 8 * G) (491 * (N + 1) + 20013 * G) Q := by
  refine J_aload_n dL_law_672 rfl ?_
  refine J_aload_n dL_law_673 rfl ?_
  refine J_iload_n dL_law_674 rfl ?_
  refine J_iconst (v := 1) dL_law_675 (by decide) ?_
  refine J_iadd dL_law_676 ?_
  refine J_sld hs9 dL_law_677 hin1 ?_
  refine J_aload_n dL_law_678 rfl ?_
  refine J_iload_n dL_law_679 rfl ?_
  refine J_iconst (v := 2) dL_law_680 (by decide) ?_
  refine J_iadd dL_law_681 ?_
  refine J_sld hs9 dL_law_682 hin2 ?_
  have K : ∀ (V2 : jH) (G2 : Nat) (y1 : Int32), WT V2 → jis V2 (.inr 4) ax → jis V2 (.inr 5) am → jphi V2 ax G2 → jTC V2 ax am → G2 ≤ G → J tS mL_law 1000 686 [some (.ref b), some (.ref ax), some (.ref am), some (.int i)] [.int y1] V2 (5 * N + 8 * G2) (491 * N + 20013 * G2) Q := by
    intro V2 G2 y1 hW hx hm hg hc hG2
    refine J_pop dL_law_686 rfl ?_
    refine J_aload_n dL_law_687 rfl ?_
    refine J_aload_n dL_law_688 rfl ?_
    refine J_iload_n dL_law_689 rfl ?_
    refine J_iconst (v := 1) dL_law_690 (by decide) ?_
    refine J_iadd dL_law_691 ?_
    refine J_sld hs9 dL_law_692 hin1 ?_
    refine J_aload_n dL_law_693 rfl ?_
    refine J_iload_n dL_law_694 rfl ?_
    refine J_iconst (v := 2) dL_law_695 (by decide) ?_
    refine J_iadd dL_law_696 ?_
    refine J_sld hs9 dL_law_697 hin2 ?_
    refine Jw_callV2 (q9 := (RX7, TX7, 34)) moX7_reach jw_ml_L_84 jw_im_X7_reach jw_se_X7_reach hm rfl rfl dL_law_698 (w_X7_reach 999 _ am (xs (i + 1).toNatClampNeg) (xs (i + 2).toNatClampNeg) (by decide) hW hm ) (by decide) (Nat.zero_le _) (Nat.zero_le _) (Nat.le_of_ble_eq_true rfl) (fun r V3 h => ?_)
    obtain ⟨⟨hW, he, y2, rfl, hy2⟩, hkp⟩ := h
    have hx := hx.mono he.1
    have hm := hm.mono he.1
    have hg := hg.keep he (jnot_of rfl) (jnot_of rfl)
    have hc := hc.keep he (jdis_of rfl)
    refine J_pop dL_law_701 rfl ?_
    refine J_goto (tgt := 908) dL_law_702 (by decide) ?_
    exact J.less (kc' := 5 * N + 8 * G2) (ks' := 491 * N + 20013 * G2) (by omega) (by omega) (kk _ G2 hW hx hm hg hc hG2)
  by_cases c1 : (xs (i + 1).toNatClampNeg) < 0
  · refine Jw_callV2 (q9 := (RX6, TX6, 7)) moX6_reach jw_ml_L_81 jw_im_X6_reach jw_se_X6_reach hx rfl rfl dL_law_683 (w_X6_reach_bad 999 _ ax _ _ (by decide) hW hx (Or.inl c1)) (by decide) (Nat.zero_le _) (Nat.zero_le _) (Nat.le_of_ble_eq_true rfl) (fun r V3 h => ?_)
    obtain ⟨⟨y1, rfl, hy1⟩, hE⟩ := h
    subst hE
    exact J.less (kc' := 5 * N + 8 * (G)) (ks' := 491 * N + 20013 * (G)) (by omega) (by omega) (K _ (G) _ hW hx hm hg hc (Nat.le_refl _))
  by_cases c2 : Int32.ofNat 4 ≤ (xs (i + 1).toNatClampNeg)
  · refine Jw_callV2 (q9 := (RX6, TX6, 7)) moX6_reach jw_ml_L_81 jw_im_X6_reach jw_se_X6_reach hx rfl rfl dL_law_683 (w_X6_reach_bad 999 _ ax _ _ (by decide) hW hx (Or.inr (Or.inl c2))) (by decide) (Nat.zero_le _) (Nat.zero_le _) (Nat.le_of_ble_eq_true rfl) (fun r V3 h => ?_)
    obtain ⟨⟨y1, rfl, hy1⟩, hE⟩ := h
    subst hE
    exact J.less (kc' := 5 * N + 8 * (G)) (ks' := 491 * N + 20013 * (G)) (by omega) (by omega) (K _ (G) _ hW hx hm hg hc (Nat.le_refl _))
  by_cases c3 : (xs (i + 2).toNatClampNeg) < 1
  · refine Jw_callV2 (q9 := (RX6, TX6, 7)) moX6_reach jw_ml_L_81 jw_im_X6_reach jw_se_X6_reach hx rfl rfl dL_law_683 (w_X6_reach_bad 999 _ ax _ _ (by decide) hW hx (Or.inr (Or.inr (Or.inl c3)))) (by decide) (Nat.zero_le _) (Nat.zero_le _) (Nat.le_of_ble_eq_true rfl) (fun r V3 h => ?_)
    obtain ⟨⟨y1, rfl, hy1⟩, hE⟩ := h
    subst hE
    exact J.less (kc' := 5 * N + 8 * (G)) (ks' := 491 * N + 20013 * (G)) (by omega) (by omega) (K _ (G) _ hW hx hm hg hc (Nat.le_refl _))
  by_cases c4 : (xs (i + 2).toNatClampNeg) ≤ 20
  rotate_left
  · refine Jw_callV2 (q9 := (RX6, TX6, 7)) moX6_reach jw_ml_L_81 jw_im_X6_reach jw_se_X6_reach hx rfl rfl dL_law_683 (w_X6_reach_bad 999 _ ax _ _ (by decide) hW hx (Or.inr (Or.inr (Or.inr c4)))) (by decide) (Nat.zero_le _) (Nat.zero_le _) (Nat.le_of_ble_eq_true rfl) (fun r V3 h => ?_)
    obtain ⟨⟨y1, rfl, hy1⟩, hE⟩ := h
    subst hE
    exact J.less (kc' := 5 * N + 8 * (G)) (ks' := 491 * N + 20013 * (G)) (by omega) (by omega) (K _ (G) _ hW hx hm hg hc (Nat.le_refl _))
  have hR : (0 ≤ (xs (i + 1).toNatClampNeg).toInt ∧ (xs (i + 1).toNatClampNeg).toInt ≤ 3 ∧ 1 ≤ (xs (i + 2).toNatClampNeg).toInt ∧ (xs (i + 2).toNatClampNeg).toInt ≤ 20) := by
    have c1i := c1
    have c2i := c2
    have c3i := c3
    have c4i := c4
    rw [jlt] at c1i c3i
    rw [jle] at c2i c4i
    have q9 : (0 : Int32).toInt = 0 := rfl
    have q8 : (Int32.ofNat 4).toInt = 4 := rfl
    have q7 : (1 : Int32).toInt = 1 := rfl
    have q6 : (20 : Int32).toInt = 20 := rfl
    omega
  obtain ⟨fs, tl, f, g, hO, hF, hA, hgs, hsum⟩ := id hg
  obtain ⟨j, hj, hgj⟩ := vp_in_of (vp_in_g c1 c2 (by decide)) (by decide)
  obtain ⟨fs8, tl8, f8, A, v1, v2, v3, hty4, hA5⟩ := id hc.1
  cases hO.symm.trans v1
  cases hF.symm.trans v2
  cases hA.symm.trans v3
  have hgi : (xs (i + 1).toNatClampNeg).toInt = (j : Int) := by rw [hgj]; exact nI_toInt (by omega)
  cases hf : f j with
  | none =>
    have hroom := jg_none hgs hsum hj hf
    have c3i : 1 ≤ (xs (i + 2).toNatClampNeg).toInt := by rw [jlt] at c3; have q9 : (1 : Int32).toInt = 1 := rfl; omega
    have c4i : (xs (i + 2).toNatClampNeg).toInt ≤ 20 := by rw [jle] at c4; exact c4
    refine Jw_callV2 (q9 := (RX6, TX6, 7)) moX6_reach jw_ml_L_81 jw_im_X6_reach jw_se_X6_reach hx rfl rfl dL_law_683 (w_X6_reach_newk 999 _ ax _ _ fs tl f j A (by decide) hW hx hO hF hA hgj hj c1 c2 c3 c4 hf hty4 hA5 c3i c4i) (by decide) (by omega) (by omega) (Nat.le_of_ble_eq_true rfl) (fun r V3 h => ?_)
    obtain ⟨⟨hW2, he, y1, rfl, hy1⟩, h9, ⟨f2, hA2, h2, h3⟩, hTL, hrt⟩ := h
    obtain ⟨hG2, hg2⟩ := jphi.fresh hO hF hA2 hgs hsum he.1 h9 hW2 hj hf h2 h3
    exact J.less (kc' := 5 * N + 8 * (G - 2)) (ks' := 491 * N + 20013 * (G - 2)) (by omega) (by omega) (K _ (G - 2) _ hW2 (hx.mono he.1) (hm.mono he.1) hg2 ⟨hTL, hc.2.keep he (jdis_of rfl)⟩ (by omega))
  | some t =>
    have c3i : 1 ≤ (xs (i + 2).toNatClampNeg).toInt := by rw [jlt] at c3; have q9 : (1 : Int32).toInt = 1 := rfl; omega
    have c4i : (xs (i + 2).toNatClampNeg).toInt ≤ 20 := by rw [jle] at c4; exact c4
    obtain ⟨n4, f4, hA4, -, -, hv4⟩ := WT_arrR hW id rfl (show jis V (.inl 5) tl from ⟨_, hA, rfl⟩)
    cases hA.symm.trans hA4
    obtain ⟨ts, ht, hKt⟩ := WT_obj hW id (hv4 j t hj hf)
    obtain ⟨w9, hF9, rc, rfl, hrcj⟩ := hKt.2 9 (.inr (some (.inl 9))) rfl
    obtain ⟨n5, h5, hrc, -, hM5, -⟩ := WT_arrI (r := (-2147483648, 2147483647)) hW id rfl hrcj
    obtain rfl := hM5 7 rfl
    by_cases cq : (xs (i + 1).toNatClampNeg).toInt = 2 ∨ 6 < (xs (i + 2).toNatClampNeg).toInt ∨ 10000 < jpw (jdir (xs (i + 1).toNatClampNeg).toInt) (xs (i + 2).toNatClampNeg).toInt.toNat ∨ ¬ (h5 (xs (i + 2).toNatClampNeg).toInt.toNat).toInt = -1
    · refine Jw_callV2 (q9 := (RX6, TX6, 7)) moX6_reach jw_ml_L_81 jw_im_X6_reach jw_se_X6_reach hx rfl rfl dL_law_683 (w_X6_reach_oldq 999 _ ax _ _ fs tl f j t ts rc h5 (by decide) hW hx hO hF hA hgj hj c1 c2 c3 c4 hf ht hF9 hrc c3i c4i cq) (by decide) (Nat.zero_le _) (Nat.zero_le _) (Nat.le_of_ble_eq_true rfl) (fun r V3 h => ?_)
      obtain ⟨⟨y1, rfl, hy1⟩, hE⟩ := h
      subst hE
      exact J.less (kc' := 5 * N + 8 * (G)) (ks' := 491 * N + 20013 * (G)) (by omega) (by omega) (K _ (G) _ hW hx hm hg hc (Nat.le_refl _))
    have d1 := fun q => cq (Or.inl q)
    have d2 := fun q => cq (Or.inr (Or.inl q))
    have d3 := fun q => cq (Or.inr (Or.inr (Or.inl q)))
    have d4 := Classical.not_not.mp (fun q => cq (Or.inr (Or.inr (Or.inr q))))
    have hroom := jg_some hgs hsum hj hf ht hF9 hrc (x := (xs (i + 2).toNatClampNeg).toInt.toNat) (by omega) d4
    refine Jw_callV2 (q9 := (RX6, TX6, 7)) moX6_reach jw_ml_L_81 jw_im_X6_reach jw_se_X6_reach hx rfl rfl dL_law_683 (w_X6_reach_olda 999 _ ax _ _ fs tl f j t ts rc h5 (by decide) hW hx hO hF hA hgj hj c1 c2 c3 c4 hf ht hF9 hrc c3i c4i d1 (by omega) (by omega) d4) (by decide) (by omega) (by omega) (Nat.le_of_ble_eq_true rfl) (fun r V3 h => ?_)
    obtain ⟨⟨hW2, he, y1, rfl, hy1⟩, h9, ⟨H2, hH2, hc2⟩, hrt⟩ := h
    obtain ⟨hG2, hg2⟩ := jphi.alloc hO hF (he.2 _ _ hA (jnot_of rfl)) hgs hsum he.1 h9 hj hf ht hF9 hrc hH2 hc2
    exact J.less (kc' := 5 * N + 8 * (G - 1)) (ks' := 491 * N + 20013 * (G - 1)) (by omega) (by omega) (K _ (G - 1) _ hW2 (hx.mono he.1) (hm.mono he.1) hg2 (hc.keep he (jdis_of rfl)) (by omega))
set_option maxRecDepth 100000 in
set_option maxHeartbeats 4000000 in
theorem lawc_17 {tS : jTS} {b L : Nat} {xs : Nat → Int32} (hs9 : tS.2 = some (b, L, xs)) (V : jH) (ax am : Nat) (i : Int32) (G N : Nat) {Q : Option Value → jH → Prop} (hW : WT V) (hx : jis V (.inr 4) ax) (hm : jis V (.inr 5) am) (hg : jphi V ax G) (hc : jTC V ax am) (hin1 : vp_in (i + 1) L) (hin2 : vp_in (i + 2) L) (hin3 : vp_in (i + 3) L) (kk : ∀ (V2 : jH) (G2 : Nat), WT V2 → jis V2 (.inr 4) ax → jis V2 (.inr 5) am → jphi V2 ax G2 → jTC V2 ax am → G2 ≤ G → J tS mL_law 1000 908 [some (.ref b), some (.ref ax), some (.ref am), some (.int i)] [] V2 (5 * N + 8 * G2) (491 * N + 20013 * G2) Q) : J tS mL_law 1000 705 [some (.ref b), some (.ref ax), some (.ref am), some (.int i)] [] V (5 * (N + 1) + 8 * G) (491 * (N + 1) + 20013 * G) Q := by
  refine J_aload_n dL_law_705 rfl ?_
  refine J_aload_n dL_law_706 rfl ?_
  refine J_iload_n dL_law_707 rfl ?_
  refine J_iconst (v := 1) dL_law_708 (by decide) ?_
  refine J_iadd dL_law_709 ?_
  refine J_sld hs9 dL_law_710 hin1 ?_
  refine J_aload_n dL_law_711 rfl ?_
  refine J_iload_n dL_law_712 rfl ?_
  refine J_iconst (v := 2) dL_law_713 (by decide) ?_
  refine J_iadd dL_law_714 ?_
  refine J_sld hs9 dL_law_715 hin2 ?_
  have K : ∀ (V2 : jH) (G2 : Nat) (y1 : Int32), WT V2 → jis V2 (.inr 4) ax → jis V2 (.inr 5) am → jphi V2 ax G2 → jTC V2 ax am → G2 ≤ G → J tS mL_law 1000 719 [some (.ref b), some (.ref ax), some (.ref am), some (.int i)] [.int y1] V2 (5 * N + 8 * G2) (491 * N + 20013 * G2) Q := by
    intro V2 G2 y1 hW hx hm hg hc hG2
    refine J_pop dL_law_719 rfl ?_
    refine J_aload_n dL_law_720 rfl ?_
    refine J_aload_n dL_law_721 rfl ?_
    refine J_iload_n dL_law_722 rfl ?_
    refine J_iconst (v := 1) dL_law_723 (by decide) ?_
    refine J_iadd dL_law_724 ?_
    refine J_sld hs9 dL_law_725 hin1 ?_
    refine J_aload_n dL_law_726 rfl ?_
    refine J_iload_n dL_law_727 rfl ?_
    refine J_iconst (v := 2) dL_law_728 (by decide) ?_
    refine J_iadd dL_law_729 ?_
    refine J_sld hs9 dL_law_730 hin2 ?_
    refine Jw_callV2 (q9 := (RX7, TX7, 34)) moX7_board jw_ml_L_88 jw_im_X7_board jw_se_X7_board hm rfl rfl dL_law_731 (w_X7_board 999 _ am (xs (i + 1).toNatClampNeg) (xs (i + 2).toNatClampNeg) (by decide) hW hm ) (by decide) (Nat.zero_le _) (Nat.zero_le _) (Nat.le_of_ble_eq_true rfl) (fun r V3 h => ?_)
    obtain ⟨⟨hW, he, y2, rfl, hy2⟩, hkp⟩ := h
    have hx := hx.mono he.1
    have hm := hm.mono he.1
    have hg := hg.keep he (jnot_of rfl) (jnot_of rfl)
    have hc := hc.keep he (jdis_of rfl)
    refine J_pop dL_law_734 rfl ?_
    refine J_goto (tgt := 908) dL_law_735 (by decide) ?_
    exact J.less (kc' := 5 * N + 8 * G2) (ks' := 491 * N + 20013 * G2) (by omega) (by omega) (kk _ G2 hW hx hm hg hc hG2)
  refine Jw_callV2 (q9 := (RX6, TX6, 7)) moX6_board jw_ml_L_85 jw_im_X6_board jw_se_X6_board hx rfl rfl dL_law_716 (w_X6_board 999 _ ax (xs (i + 1).toNatClampNeg) (xs (i + 2).toNatClampNeg) (by decide) hW hx ) (by decide) (Nat.zero_le _) (Nat.zero_le _) (Nat.le_of_ble_eq_true rfl) (fun r V3 h => ?_)
  obtain ⟨hW2, he, y1, rfl, hy1⟩ := h
  exact J.less (kc' := 5 * N + 8 * (G)) (ks' := 491 * N + 20013 * (G)) (by omega) (by omega) (K _ (G) _ hW2 (hx.mono he.1) (hm.mono he.1) (hg.keep he (jnot_of rfl) (jnot_of rfl)) (hc.keep he (jdis_of rfl)) (Nat.le_refl _))
set_option maxRecDepth 100000 in
set_option maxHeartbeats 4000000 in
theorem lawc_18 {tS : jTS} {b L : Nat} {xs : Nat → Int32} (hs9 : tS.2 = some (b, L, xs)) (V : jH) (ax am : Nat) (i : Int32) (G N : Nat) {Q : Option Value → jH → Prop} (hW : WT V) (hx : jis V (.inr 4) ax) (hm : jis V (.inr 5) am) (hg : jphi V ax G) (hc : jTC V ax am) (hin1 : vp_in (i + 1) L) (hin2 : vp_in (i + 2) L) (hin3 : vp_in (i + 3) L) (kk : ∀ (V2 : jH) (G2 : Nat), WT V2 → jis V2 (.inr 4) ax → jis V2 (.inr 5) am → jphi V2 ax G2 → jTC V2 ax am → G2 ≤ G → J tS mL_law 1000 908 [some (.ref b), some (.ref ax), some (.ref am), some (.int i)] [] V2 (5 * N + 8 * G2) (491 * N + 20013 * G2) Q) : J tS mL_law 1000 738 [some (.ref b), some (.ref ax), some (.ref am), some (.int i)] [] V (5 * (N + 1) + 8 * G) (491 * (N + 1) + 20013 * G) Q := by
  refine J_aload_n dL_law_738 rfl ?_
  refine J_aload_n dL_law_739 rfl ?_
  refine J_iload_n dL_law_740 rfl ?_
  refine J_iconst (v := 1) dL_law_741 (by decide) ?_
  refine J_iadd dL_law_742 ?_
  refine J_sld hs9 dL_law_743 hin1 ?_
  refine J_aload_n dL_law_744 rfl ?_
  refine J_iload_n dL_law_745 rfl ?_
  refine J_iconst (v := 2) dL_law_746 (by decide) ?_
  refine J_iadd dL_law_747 ?_
  refine J_sld hs9 dL_law_748 hin2 ?_
  refine J_aload_n dL_law_749 rfl ?_
  refine J_iload_n dL_law_750 rfl ?_
  refine J_iconst (v := 3) dL_law_751 (by decide) ?_
  refine J_iadd dL_law_752 ?_
  refine J_sld hs9 dL_law_753 hin3 ?_
  obtain ⟨w, hw0, hw1, hwz, hwo⟩ := jbw (xs (i + 3).toNatClampNeg)
  have Kb754 : J tS mL_law 1000 762 [some (.ref b), some (.ref ax), some (.ref am), some (.int i)] [.int w, .int (xs (i + 2).toNatClampNeg), .int (xs (i + 1).toNatClampNeg), .ref ax] V (5 * (N + 1) + 8 * G) (491 * (N + 1) + 20013 * G) Q := by
    have K : ∀ (V2 : jH) (G2 : Nat) (y1 : Int32), WT V2 → jis V2 (.inr 4) ax → jis V2 (.inr 5) am → jphi V2 ax G2 → jTC V2 ax am → G2 ≤ G → J tS mL_law 1000 765 [some (.ref b), some (.ref ax), some (.ref am), some (.int i)] [.int y1] V2 (5 * N + 8 * G2) (491 * N + 20013 * G2) Q := by
      intro V2 G2 y1 hW hx hm hg hc hG2
      refine J_pop dL_law_765 rfl ?_
      refine J_aload_n dL_law_766 rfl ?_
      refine J_aload_n dL_law_767 rfl ?_
      refine J_iload_n dL_law_768 rfl ?_
      refine J_iconst (v := 1) dL_law_769 (by decide) ?_
      refine J_iadd dL_law_770 ?_
      refine J_sld hs9 dL_law_771 hin1 ?_
      refine J_aload_n dL_law_772 rfl ?_
      refine J_iload_n dL_law_773 rfl ?_
      refine J_iconst (v := 2) dL_law_774 (by decide) ?_
      refine J_iadd dL_law_775 ?_
      refine J_sld hs9 dL_law_776 hin2 ?_
      refine J_aload_n dL_law_777 rfl ?_
      refine J_iload_n dL_law_778 rfl ?_
      refine J_iconst (v := 3) dL_law_779 (by decide) ?_
      refine J_iadd dL_law_780 ?_
      refine J_sld hs9 dL_law_781 hin3 ?_
      have Kb782 : J tS mL_law 1000 790 [some (.ref b), some (.ref ax), some (.ref am), some (.int i)] [.int w, .int (xs (i + 2).toNatClampNeg), .int (xs (i + 1).toNatClampNeg), .ref am] V2 (5 * N + 8 * G2) (491 * N + 20013 * G2) Q := by
        refine Jw_callV3 (q9 := (RX7, TX7, 34)) moX7_hole jw_ml_L_93 jw_im_X7_hole jw_se_X7_hole hm rfl rfl dL_law_790 (w_X7_hole 999 _ am (xs (i + 1).toNatClampNeg) (xs (i + 2).toNatClampNeg) w (by decide) hW hm (by assumption) (by assumption)) (by decide) (Nat.zero_le _) (Nat.zero_le _) (Nat.le_of_ble_eq_true rfl) (fun r V3 h => ?_)
        obtain ⟨⟨hW, he, y2, rfl, hy2⟩, hkp⟩ := h
        have hx := hx.mono he.1
        have hm := hm.mono he.1
        have hg := hg.keep he (jnot_of rfl) (jnot_of rfl)
        have hc := hc.keep he (jdis_of rfl)
        refine J_pop dL_law_793 rfl ?_
        refine J_goto (tgt := 908) dL_law_794 (by decide) ?_
        exact J.less (kc' := 5 * N + 8 * G2) (ks' := 491 * N + 20013 * G2) (by omega) (by omega) (kk _ G2 hW hx hm hg hc hG2)
      refine J_if_eq (tgt := 789) dL_law_782 (by decide) (fun c => ?_) (fun c => ?_)
      · skip
        refine J_iconst (v := 0) dL_law_789 (by decide) ?_
        rw [hwz c] at Kb782
        exact Kb782
      · skip
        refine J_iconst (v := 1) dL_law_785 (by decide) ?_
        refine J_goto (tgt := 790) dL_law_786 (by decide) ?_
        rw [hwo c] at Kb782
        exact Kb782
    refine Jw_callV3 (q9 := (RX6, TX6, 7)) moX6_hole jw_ml_L_89 jw_im_X6_hole jw_se_X6_hole hx rfl rfl dL_law_762 (w_X6_hole 999 _ ax (xs (i + 1).toNatClampNeg) (xs (i + 2).toNatClampNeg) w (by decide) hW hx ) (by decide) (Nat.zero_le _) (Nat.zero_le _) (Nat.le_of_ble_eq_true rfl) (fun r V3 h => ?_)
    obtain ⟨hW2, he, y1, rfl, hy1⟩ := h
    exact J.less (kc' := 5 * N + 8 * (G)) (ks' := 491 * N + 20013 * (G)) (by omega) (by omega) (K _ (G) _ hW2 (hx.mono he.1) (hm.mono he.1) (hg.keep he (jnot_of rfl) (jnot_of rfl)) (hc.keep he (jdis_of rfl)) (Nat.le_refl _))
  refine J_if_eq (tgt := 761) dL_law_754 (by decide) (fun c => ?_) (fun c => ?_)
  · skip
    refine J_iconst (v := 0) dL_law_761 (by decide) ?_
    rw [hwz c] at Kb754
    exact Kb754
  · skip
    refine J_iconst (v := 1) dL_law_757 (by decide) ?_
    refine J_goto (tgt := 762) dL_law_758 (by decide) ?_
    rw [hwo c] at Kb754
    exact Kb754
set_option maxRecDepth 100000 in
set_option maxHeartbeats 4000000 in
theorem lawc_19 {tS : jTS} {b L : Nat} {xs : Nat → Int32} (hs9 : tS.2 = some (b, L, xs)) (V : jH) (ax am : Nat) (i : Int32) (G N : Nat) {Q : Option Value → jH → Prop} (hW : WT V) (hx : jis V (.inr 4) ax) (hm : jis V (.inr 5) am) (hg : jphi V ax G) (hc : jTC V ax am) (hin1 : vp_in (i + 1) L) (hin2 : vp_in (i + 2) L) (hin3 : vp_in (i + 3) L) (kk : ∀ (V2 : jH) (G2 : Nat), WT V2 → jis V2 (.inr 4) ax → jis V2 (.inr 5) am → jphi V2 ax G2 → jTC V2 ax am → G2 ≤ G → J tS mL_law 1000 908 [some (.ref b), some (.ref ax), some (.ref am), some (.int i)] [] V2 (5 * N + 8 * G2) (491 * N + 20013 * G2) Q) : J tS mL_law 1000 797 [some (.ref b), some (.ref ax), some (.ref am), some (.int i)] [] V (5 * (N + 1) + 8 * G) (491 * (N + 1) + 20013 * G) Q := by
  refine J_aload_n dL_law_797 rfl ?_
  refine J_aload_n dL_law_798 rfl ?_
  refine J_iload_n dL_law_799 rfl ?_
  refine J_iconst (v := 1) dL_law_800 (by decide) ?_
  refine J_iadd dL_law_801 ?_
  refine J_sld hs9 dL_law_802 hin1 ?_
  obtain ⟨w, hw0, hw1, hwz, hwo⟩ := jbw (xs (i + 1).toNatClampNeg)
  have Kb803 : J tS mL_law 1000 811 [some (.ref b), some (.ref ax), some (.ref am), some (.int i)] [.int w, .ref ax] V (5 * (N + 1) + 8 * G) (491 * (N + 1) + 20013 * G) Q := by
    have K : ∀ (V2 : jH) (G2 : Nat) (y1 : Int32), WT V2 → jis V2 (.inr 4) ax → jis V2 (.inr 5) am → jphi V2 ax G2 → jTC V2 ax am → G2 ≤ G → J tS mL_law 1000 814 [some (.ref b), some (.ref ax), some (.ref am), some (.int i)] [.int y1] V2 (5 * N + 8 * G2) (491 * N + 20013 * G2) Q := by
      intro V2 G2 y1 hW hx hm hg hc hG2
      refine J_pop dL_law_814 rfl ?_
      refine J_aload_n dL_law_815 rfl ?_
      refine J_aload_n dL_law_816 rfl ?_
      refine J_iload_n dL_law_817 rfl ?_
      refine J_iconst (v := 1) dL_law_818 (by decide) ?_
      refine J_iadd dL_law_819 ?_
      refine J_sld hs9 dL_law_820 hin1 ?_
      have Kb821 : J tS mL_law 1000 829 [some (.ref b), some (.ref ax), some (.ref am), some (.int i)] [.int w, .ref am] V2 (5 * N + 8 * G2) (491 * N + 20013 * G2) Q := by
        refine Jw_callV1 (q9 := (RX7, TX7, 34)) moX7_ways jw_ml_L_98 jw_im_X7_ways jw_se_X7_ways hm rfl rfl dL_law_829 (w_X7_ways 999 _ am w (by decide) hW hm (by assumption) (by assumption)) (by decide) (Nat.zero_le _) (Nat.zero_le _) (Nat.le_of_ble_eq_true rfl) (fun r V3 h => ?_)
        obtain ⟨⟨hW, he, y2, rfl, hy2⟩, hkp⟩ := h
        have hx := hx.mono he.1
        have hm := hm.mono he.1
        have hg := hg.keep he (jnot_of rfl) (jnot_of rfl)
        have hc := hc.keep he (jdis_of rfl)
        refine J_pop dL_law_832 rfl ?_
        refine J_goto (tgt := 908) dL_law_833 (by decide) ?_
        exact J.less (kc' := 5 * N + 8 * G2) (ks' := 491 * N + 20013 * G2) (by omega) (by omega) (kk _ G2 hW hx hm hg hc hG2)
      refine J_if_eq (tgt := 828) dL_law_821 (by decide) (fun c => ?_) (fun c => ?_)
      · skip
        refine J_iconst (v := 0) dL_law_828 (by decide) ?_
        rw [hwz c] at Kb821
        exact Kb821
      · skip
        refine J_iconst (v := 1) dL_law_824 (by decide) ?_
        refine J_goto (tgt := 829) dL_law_825 (by decide) ?_
        rw [hwo c] at Kb821
        exact Kb821
    refine Jw_callV1 (q9 := (RX6, TX6, 7)) moX6_ways jw_ml_L_94 jw_im_X6_ways jw_se_X6_ways hx rfl rfl dL_law_811 (w_X6_ways 999 _ ax w (by decide) hW hx ) (by decide) (Nat.zero_le _) (Nat.zero_le _) (Nat.le_of_ble_eq_true rfl) (fun r V3 h => ?_)
    obtain ⟨⟨hW2, he, y1, rfl, hy1⟩, -⟩ := h
    exact J.less (kc' := 5 * N + 8 * (G)) (ks' := 491 * N + 20013 * (G)) (by omega) (by omega) (K _ (G) _ hW2 (hx.mono he.1) (hm.mono he.1) (hg.keep he (jnot_of rfl) (jnot_of rfl)) (hc.keep he (jdis_of rfl)) (Nat.le_refl _))
  refine J_if_eq (tgt := 810) dL_law_803 (by decide) (fun c => ?_) (fun c => ?_)
  · skip
    refine J_iconst (v := 0) dL_law_810 (by decide) ?_
    rw [hwz c] at Kb803
    exact Kb803
  · skip
    refine J_iconst (v := 1) dL_law_806 (by decide) ?_
    refine J_goto (tgt := 811) dL_law_807 (by decide) ?_
    rw [hwo c] at Kb803
    exact Kb803
set_option maxRecDepth 100000 in
set_option maxHeartbeats 4000000 in
theorem lawc_20 {tS : jTS} {b L : Nat} {xs : Nat → Int32} (hs9 : tS.2 = some (b, L, xs)) (V : jH) (ax am : Nat) (i : Int32) (G N : Nat) {Q : Option Value → jH → Prop} (hW : WT V) (hx : jis V (.inr 4) ax) (hm : jis V (.inr 5) am) (hg : jphi V ax G) (hc : jTC V ax am) (hin1 : vp_in (i + 1) L) (hin2 : vp_in (i + 2) L) (hin3 : vp_in (i + 3) L) (kk : ∀ (V2 : jH) (G2 : Nat), WT V2 → jis V2 (.inr 4) ax → jis V2 (.inr 5) am → jphi V2 ax G2 → jTC V2 ax am → G2 ≤ G → J tS mL_law 1000 908 [some (.ref b), some (.ref ax), some (.ref am), some (.int i)] [] V2 (5 * N + 8 * G2) (491 * N + 20013 * G2) Q) : J tS mL_law 1000 836 [some (.ref b), some (.ref ax), some (.ref am), some (.int i)] [] V (5 * (N + 1) + 8 * G) (491 * (N + 1) + 20013 * G) Q := by
  refine J_aload_n dL_law_836 rfl ?_
  refine J_aload_n dL_law_837 rfl ?_
  refine J_iload_n dL_law_838 rfl ?_
  refine J_iconst (v := 1) dL_law_839 (by decide) ?_
  refine J_iadd dL_law_840 ?_
  refine J_sld hs9 dL_law_841 hin1 ?_
  have K : ∀ (V2 : jH) (G2 : Nat) (y1 : Int32), WT V2 → jis V2 (.inr 4) ax → jis V2 (.inr 5) am → jphi V2 ax G2 → jTC V2 ax am → G2 ≤ G → J tS mL_law 1000 845 [some (.ref b), some (.ref ax), some (.ref am), some (.int i)] [.int y1] V2 (5 * N + 8 * G2) (491 * N + 20013 * G2) Q := by
    intro V2 G2 y1 hW hx hm hg hc hG2
    refine J_pop dL_law_845 rfl ?_
    refine J_aload_n dL_law_846 rfl ?_
    refine J_aload_n dL_law_847 rfl ?_
    refine J_iload_n dL_law_848 rfl ?_
    refine J_iconst (v := 1) dL_law_849 (by decide) ?_
    refine J_iadd dL_law_850 ?_
    refine J_sld hs9 dL_law_851 hin1 ?_
    refine Jw_callV1 (q9 := (RX7, TX7, 34)) moX7_waysOf jw_ml_L_102 jw_im_X7_waysOf jw_se_X7_waysOf hm rfl rfl dL_law_852 (w_X7_waysOf 999 _ am (xs (i + 1).toNatClampNeg) (by decide) hW hm ) (by decide) (Nat.zero_le _) (Nat.zero_le _) (Nat.le_of_ble_eq_true rfl) (fun r V3 h => ?_)
    obtain ⟨⟨hW, he, y2, rfl, hy2⟩, hkp⟩ := h
    have hx := hx.mono he.1
    have hm := hm.mono he.1
    have hg := hg.keep he (jnot_of rfl) (jnot_of rfl)
    have hc := hc.keep he (jdis_of rfl)
    refine J_pop dL_law_855 rfl ?_
    refine J_goto (tgt := 908) dL_law_856 (by decide) ?_
    exact J.less (kc' := 5 * N + 8 * G2) (ks' := 491 * N + 20013 * G2) (by omega) (by omega) (kk _ G2 hW hx hm hg hc hG2)
  refine Jw_callV1 (q9 := (RX6, TX6, 7)) moX6_waysOf jw_ml_L_99 jw_im_X6_waysOf jw_se_X6_waysOf hx rfl rfl dL_law_842 (w_X6_waysOf 999 _ ax (xs (i + 1).toNatClampNeg) (by decide) hW hx ) (by decide) (Nat.zero_le _) (Nat.zero_le _) (Nat.le_of_ble_eq_true rfl) (fun r V3 h => ?_)
  obtain ⟨⟨hW2, he, y1, rfl, hy1⟩, -⟩ := h
  exact J.less (kc' := 5 * N + 8 * (G)) (ks' := 491 * N + 20013 * (G)) (by omega) (by omega) (K _ (G) _ hW2 (hx.mono he.1) (hm.mono he.1) (hg.keep he (jnot_of rfl) (jnot_of rfl)) (hc.keep he (jdis_of rfl)) (Nat.le_refl _))
set_option maxRecDepth 100000 in
set_option maxHeartbeats 4000000 in
theorem lawc_21 {tS : jTS} {b L : Nat} {xs : Nat → Int32} (hs9 : tS.2 = some (b, L, xs)) (V : jH) (ax am : Nat) (i : Int32) (G N : Nat) {Q : Option Value → jH → Prop} (hW : WT V) (hx : jis V (.inr 4) ax) (hm : jis V (.inr 5) am) (hg : jphi V ax G) (hc : jTC V ax am) (hin1 : vp_in (i + 1) L) (hin2 : vp_in (i + 2) L) (hin3 : vp_in (i + 3) L) (kk : ∀ (V2 : jH) (G2 : Nat), WT V2 → jis V2 (.inr 4) ax → jis V2 (.inr 5) am → jphi V2 ax G2 → jTC V2 ax am → G2 ≤ G → J tS mL_law 1000 908 [some (.ref b), some (.ref ax), some (.ref am), some (.int i)] [] V2 (5 * N + 8 * G2) (491 * N + 20013 * G2) Q) : J tS mL_law 1000 859 [some (.ref b), some (.ref ax), some (.ref am), some (.int i)] [] V (5 * (N + 1) + 8 * G) (491 * (N + 1) + 20013 * G) Q := by
  refine J_aload_n dL_law_859 rfl ?_
  have K : ∀ (V2 : jH) (G2 : Nat) (y1 : Int32), WT V2 → jis V2 (.inr 4) ax → jis V2 (.inr 5) am → jphi V2 ax G2 → jTC V2 ax am → G2 ≤ G → J tS mL_law 1000 863 [some (.ref b), some (.ref ax), some (.ref am), some (.int i)] [.int y1] V2 (5 * N + 8 * G2) (491 * N + 20013 * G2) Q := by
    intro V2 G2 y1 hW hx hm hg hc hG2
    refine J_pop dL_law_863 rfl ?_
    refine J_aload_n dL_law_864 rfl ?_
    refine Jw_callV0 (q9 := (RX7, TX7, 34)) moX7_shortest jw_ml_L_107 jw_im_X7_shortest jw_se_X7_shortest hm rfl rfl dL_law_865 (w_X7_shortest 999 _ am  (by decide) hW hm ) (by decide) (Nat.zero_le _) (Nat.zero_le _) (Nat.le_of_ble_eq_true rfl) (fun r V3 h => ?_)
    obtain ⟨⟨hW, he, y2, rfl, hy2⟩, hkp⟩ := h
    have hx := hx.mono he.1
    have hm := hm.mono he.1
    have hg := hg.keep he (jnot_of rfl) (jnot_of rfl)
    have hc := hc.keep he (jdis_of rfl)
    refine J_pop dL_law_868 rfl ?_
    refine J_goto (tgt := 908) dL_law_869 (by decide) ?_
    exact J.less (kc' := 5 * N + 8 * G2) (ks' := 491 * N + 20013 * G2) (by omega) (by omega) (kk _ G2 hW hx hm hg hc hG2)
  refine Jw_callV0 (q9 := (RX6, TX6, 7)) moX6_shortest jw_ml_L_103 jw_im_X6_shortest jw_se_X6_shortest hx rfl rfl dL_law_860 (w_X6_shortest 999 _ ax  (by decide) hW hx ) (by decide) (Nat.zero_le _) (Nat.zero_le _) (Nat.le_of_ble_eq_true rfl) (fun r V3 h => ?_)
  obtain ⟨⟨y1, rfl, hy1⟩, hE⟩ := h
  subst hE
  exact J.less (kc' := 5 * N + 8 * (G)) (ks' := 491 * N + 20013 * (G)) (by omega) (by omega) (K _ (G) _ hW hx hm hg hc (Nat.le_refl _))
