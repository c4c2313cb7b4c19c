/-! THE LAW's cases: one call of each, the same answers, the same new state -/
set_option maxRecDepth 100000 in
set_option maxHeartbeats 4000000 in
theorem law_c0 {l : Launch} {G : Gm} {K : Cx} {b nS i : Nat} {xs : Nat → Int32} {S : SS} {c : HP} (X : LX l G K b nS xs) (hN : G.2.1 = 72) (hnS : nS ≤ 2048) (hi : i + 3 < nS) (hWX : WX G c S) (hWM : WM G c S) (kk : ∀ (S' : SS) (c' : HP), WX G c' S' → WM G c' S' → LW G K 916 (mkL [some (.ref b), some (.ref (G.1 0)), some (.ref (G.1 55)), some (.int (zI ((i : Nat) : Int)))]) [] c') : LW G K 172 (mkL [some (.ref b), some (.ref (G.1 0)), some (.ref (G.1 55)), some (.int (zI ((i : Nat) : Int)))]) [] c := by
  have hG := X.inj
  obtain ⟨tm, x, hs, s0, s1, o, sd⟩ := S
  refine L_aload_n (q := 173) X dL_law_172 rfl rfl ?_
  refine L_aload_n (q := 174) X dL_law_173 rfl rfl ?_
  refine L_iload_n (q := 175) X dL_law_174 rfl rfl ?_
  refine L_iconst (q := 176) X dL_law_175 rfl ?_
  refine L_iadd (q := 177) X dL_law_176 rfl ?_
  refine L_sld (q := 178) (k := i + 1) X dL_law_177 (by omega) (by omega) (by omega) rfl ?_
  refine L_V1i (q := 181) X (c_X8_append hG (zI_rg _) hWX) mX8_append kL_13 dL_law_178 (by omega) hWX.2.1 rfl ⟨(Nat.le_of_ble_eq_true rfl), (Nat.le_of_ble_eq_true rfl)⟩ (Nat.le_of_ble_eq_true rfl) rfl (fun v1 c1 h1 => ?_)
  obtain ⟨rfl, hX1, hf1⟩ := h1
  have hM1 := WM_keep hWM hf1
  refine L_aload_n (q := 182) X dL_law_181 rfl rfl ?_
  refine L_aload_n (q := 183) X dL_law_182 rfl rfl ?_
  refine L_iload_n (q := 184) X dL_law_183 rfl rfl ?_
  refine L_iconst (q := 185) X dL_law_184 rfl ?_
  refine L_iadd (q := 186) X dL_law_185 rfl ?_
  refine L_sld (q := 187) (k := i + 1) X dL_law_186 (by omega) (by omega) (by omega) rfl ?_
  obtain ⟨th, tw, pk, h55, -⟩ := hM1.2.1
  refine L_V1i (q := 190) X (c_X9_append hG (zI_rg _) hM1) mX9_append kL_17 dL_law_187 (by omega) h55 rfl ⟨(Nat.le_of_ble_eq_true rfl), (Nat.le_of_ble_eq_true rfl)⟩ (Nat.le_of_ble_eq_true rfl) rfl (fun v2 c2 h2 => ?_)
  obtain ⟨rfl, hM2, hf2⟩ := h2
  exact L_same (t := 916) X dL_law_190 rfl (kk _ _ (WX_keep hX1 hf2) hM2)
set_option maxRecDepth 100000 in
set_option maxHeartbeats 4000000 in
theorem law_c1 {l : Launch} {G : Gm} {K : Cx} {b nS i : Nat} {xs : Nat → Int32} {S : SS} {c : HP} (X : LX l G K b nS xs) (hN : G.2.1 = 72) (hnS : nS ≤ 2048) (hi : i + 3 < nS) (hWX : WX G c S) (hWM : WM G c S) (kk : ∀ (S' : SS) (c' : HP), WX G c' S' → WM G c' S' → LW G K 916 (mkL [some (.ref b), some (.ref (G.1 0)), some (.ref (G.1 55)), some (.int (zI ((i : Nat) : Int)))]) [] c') : LW G K 195 (mkL [some (.ref b), some (.ref (G.1 0)), some (.ref (G.1 55)), some (.int (zI ((i : Nat) : Int)))]) [] c := by
  have hG := X.inj
  obtain ⟨tm, x, hs, s0, s1, o, sd⟩ := S
  refine L_aload_n (q := 196) X dL_law_195 rfl rfl ?_
  refine L_V0i (q := 199) X (c_X8_clearText hG hWX) mX8_clearText kL_18 dL_law_196 (by omega) hWX.2.1 rfl ⟨(Nat.le_of_ble_eq_true rfl), (Nat.le_of_ble_eq_true rfl)⟩ (Nat.le_of_ble_eq_true rfl) rfl (fun v1 c1 h1 => ?_)
  obtain ⟨rfl, hX1, hf1⟩ := h1
  have hM1 := WM_keep hWM hf1
  refine L_aload_n (q := 200) X dL_law_199 rfl rfl ?_
  obtain ⟨th, tw, pk, h55, -⟩ := hM1.2.1
  refine L_V0i (q := 203) X (c_X9_clearText hG hM1) mX9_clearText kL_22 dL_law_200 (by omega) h55 rfl ⟨(Nat.le_of_ble_eq_true rfl), (Nat.le_of_ble_eq_true rfl)⟩ (Nat.le_of_ble_eq_true rfl) rfl (fun v2 c2 h2 => ?_)
  obtain ⟨rfl, hM2, hf2⟩ := h2
  exact L_same (t := 916) X dL_law_203 rfl (kk _ _ (WX_keep hX1 hf2) hM2)
set_option maxRecDepth 100000 in
set_option maxHeartbeats 4000000 in
theorem law_c2 {l : Launch} {G : Gm} {K : Cx} {b nS i : Nat} {xs : Nat → Int32} {S : SS} {c : HP} (X : LX l G K b nS xs) (hN : G.2.1 = 72) (hnS : nS ≤ 2048) (hi : i + 3 < nS) (hWX : WX G c S) (hWM : WM G c S) (kk : ∀ (S' : SS) (c' : HP), WX G c' S' → WM G c' S' → LW G K 916 (mkL [some (.ref b), some (.ref (G.1 0)), some (.ref (G.1 55)), some (.int (zI ((i : Nat) : Int)))]) [] c') : LW G K 208 (mkL [some (.ref b), some (.ref (G.1 0)), some (.ref (G.1 55)), some (.int (zI ((i : Nat) : Int)))]) [] c := by
  have hG := X.inj
  obtain ⟨tm, x, hs, s0, s1, o, sd⟩ := S
  refine L_aload_n (q := 209) X dL_law_208 rfl rfl ?_
  refine L_V0i (q := 212) X (c_X8_errorPosition hG hWX) mX8_errorPosition kL_23 dL_law_209 (by omega) hWX.2.1 rfl ⟨(Nat.le_of_ble_eq_true rfl), (Nat.le_of_ble_eq_true rfl)⟩ (Nat.le_of_ble_eq_true rfl) rfl (fun v1 c1 h1 => ?_)
  obtain ⟨rfl, hX1, hf1⟩ := h1
  have hM1 := WM_keep hWM hf1
  refine L_aload_n (q := 213) X dL_law_212 rfl rfl ?_
  obtain ⟨th, tw, pk, h55, -⟩ := hM1.2.1
  refine L_V0i (q := 216) X (c_X9_errorPosition hG hM1) mX9_errorPosition kL_26 dL_law_213 (by omega) h55 rfl ⟨(Nat.le_of_ble_eq_true rfl), (Nat.le_of_ble_eq_true rfl)⟩ (Nat.le_of_ble_eq_true rfl) rfl (fun v2 c2 h2 => ?_)
  obtain ⟨rfl, hM2, hf2⟩ := h2
  exact L_same (t := 916) X dL_law_216 rfl (kk _ _ (WX_keep hX1 hf2) hM2)
set_option maxRecDepth 100000 in
set_option maxHeartbeats 4000000 in
theorem law_c3 {l : Launch} {G : Gm} {K : Cx} {b nS i : Nat} {xs : Nat → Int32} {S : SS} {c : HP} (X : LX l G K b nS xs) (hN : G.2.1 = 72) (hnS : nS ≤ 2048) (hi : i + 3 < nS) (hWX : WX G c S) (hWM : WM G c S) (kk : ∀ (S' : SS) (c' : HP), WX G c' S' → WM G c' S' → LW G K 916 (mkL [some (.ref b), some (.ref (G.1 0)), some (.ref (G.1 55)), some (.int (zI ((i : Nat) : Int)))]) [] c') : LW G K 221 (mkL [some (.ref b), some (.ref (G.1 0)), some (.ref (G.1 55)), some (.int (zI ((i : Nat) : Int)))]) [] c := by
  have hG := X.inj
  obtain ⟨tm, x, hs, s0, s1, o, sd⟩ := S
  refine L_aload_n (q := 222) X dL_law_221 rfl rfl ?_
  refine L_V0i (q := 225) X (c_X8_load hG hWX) mX8_load kL_27 dL_law_222 (by omega) hWX.2.1 rfl ⟨(Nat.le_of_ble_eq_true rfl), (Nat.le_of_ble_eq_true rfl)⟩ (Nat.le_of_ble_eq_true rfl) rfl (fun v1 c1 h1 => ?_)
  obtain ⟨rfl, hX1, hf1⟩ := h1
  have hM1 := WM_keep hWM hf1
  refine L_aload_n (q := 226) X dL_law_225 rfl rfl ?_
  obtain ⟨th, tw, pk, h55, -⟩ := hM1.2.1
  refine L_V0i (q := 229) X (c_X9_load hG hM1) mX9_load kL_30 dL_law_226 (by omega) h55 rfl ⟨(Nat.le_of_ble_eq_true rfl), (Nat.le_of_ble_eq_true rfl)⟩ (Nat.le_of_ble_eq_true rfl) rfl (fun v2 c2 h2 => ?_)
  obtain ⟨rfl, hM2, hf2⟩ := h2
  exact L_same (t := 916) X dL_law_229 rfl (kk _ _ (WX_keep hX1 hf2) hM2)
set_option maxRecDepth 100000 in
set_option maxHeartbeats 4000000 in
theorem law_c4 {l : Launch} {G : Gm} {K : Cx} {b nS i : Nat} {xs : Nat → Int32} {S : SS} {c : HP} (X : LX l G K b nS xs) (hN : G.2.1 = 72) (hnS : nS ≤ 2048) (hi : i + 3 < nS) (hWX : WX G c S) (hWM : WM G c S) (kk : ∀ (S' : SS) (c' : HP), WX G c' S' → WM G c' S' → LW G K 916 (mkL [some (.ref b), some (.ref (G.1 0)), some (.ref (G.1 55)), some (.int (zI ((i : Nat) : Int)))]) [] c') : LW G K 234 (mkL [some (.ref b), some (.ref (G.1 0)), some (.ref (G.1 55)), some (.int (zI ((i : Nat) : Int)))]) [] c := by
  have hG := X.inj
  obtain ⟨tm, x, hs, s0, s1, o, sd⟩ := S
  refine L_aload_n (q := 235) X dL_law_234 rfl rfl ?_
  refine L_V0i (q := 238) X (c_X8_size hG hWX) mX8_size kL_31 dL_law_235 (by omega) hWX.2.1 rfl ⟨(Nat.le_of_ble_eq_true rfl), (Nat.le_of_ble_eq_true rfl)⟩ (Nat.le_of_ble_eq_true rfl) rfl (fun v1 c1 h1 => ?_)
  obtain ⟨rfl, hX1, hf1⟩ := h1
  have hM1 := WM_keep hWM hf1
  refine L_aload_n (q := 239) X dL_law_238 rfl rfl ?_
  obtain ⟨th, tw, pk, h55, -⟩ := hM1.2.1
  refine L_V0i (q := 242) X (c_X9_size hG hM1) mX9_size kL_34 dL_law_239 (by omega) h55 rfl ⟨(Nat.le_of_ble_eq_true rfl), (Nat.le_of_ble_eq_true rfl)⟩ (Nat.le_of_ble_eq_true rfl) rfl (fun v2 c2 h2 => ?_)
  obtain ⟨rfl, hM2, hf2⟩ := h2
  exact L_same (t := 916) X dL_law_242 rfl (kk _ _ (WX_keep hX1 hf2) hM2)
set_option maxRecDepth 100000 in
set_option maxHeartbeats 4000000 in
theorem law_c5 {l : Launch} {G : Gm} {K : Cx} {b nS i : Nat} {xs : Nat → Int32} {S : SS} {c : HP} (X : LX l G K b nS xs) (hN : G.2.1 = 72) (hnS : nS ≤ 2048) (hi : i + 3 < nS) (hWX : WX G c S) (hWM : WM G c S) (kk : ∀ (S' : SS) (c' : HP), WX G c' S' → WM G c' S' → LW G K 916 (mkL [some (.ref b), some (.ref (G.1 0)), some (.ref (G.1 55)), some (.int (zI ((i : Nat) : Int)))]) [] c') : LW G K 247 (mkL [some (.ref b), some (.ref (G.1 0)), some (.ref (G.1 55)), some (.int (zI ((i : Nat) : Int)))]) [] c := by
  have hG := X.inj
  obtain ⟨tm, x, hs, s0, s1, o, sd⟩ := S
  refine L_aload_n (q := 248) X dL_law_247 rfl rfl ?_
  refine L_aload_n (q := 249) X dL_law_248 rfl rfl ?_
  refine L_iload_n (q := 250) X dL_law_249 rfl rfl ?_
  refine L_iconst (q := 251) X dL_law_250 rfl ?_
  refine L_iadd (q := 252) X dL_law_251 rfl ?_
  refine L_sld (q := 253) (k := i + 1) X dL_law_252 (by omega) (by omega) (by omega) rfl ?_
  refine L_V1i (q := 256) X (c_X8_tokenAt hG (zI_rg _) hWX) mX8_tokenAt kL_35 dL_law_253 (by omega) hWX.2.1 rfl ⟨(Nat.le_of_ble_eq_true rfl), (Nat.le_of_ble_eq_true rfl)⟩ (Nat.le_of_ble_eq_true rfl) rfl (fun v1 c1 h1 => ?_)
  obtain ⟨rfl, hX1, hf1⟩ := h1
  have hM1 := WM_keep hWM hf1
  refine L_aload_n (q := 257) X dL_law_256 rfl rfl ?_
  refine L_aload_n (q := 258) X dL_law_257 rfl rfl ?_
  refine L_iload_n (q := 259) X dL_law_258 rfl rfl ?_
  refine L_iconst (q := 260) X dL_law_259 rfl ?_
  refine L_iadd (q := 261) X dL_law_260 rfl ?_
  refine L_sld (q := 262) (k := i + 1) X dL_law_261 (by omega) (by omega) (by omega) rfl ?_
  obtain ⟨th, tw, pk, h55, -⟩ := hM1.2.1
  refine L_V1i (q := 265) X (c_X9_tokenAt hG (zI_rg _) hM1) mX9_tokenAt kL_38 dL_law_262 (by omega) h55 rfl ⟨(Nat.le_of_ble_eq_true rfl), (Nat.le_of_ble_eq_true rfl)⟩ (Nat.le_of_ble_eq_true rfl) rfl (fun v2 c2 h2 => ?_)
  obtain ⟨rfl, hM2, hf2⟩ := h2
  exact L_same (t := 916) X dL_law_265 rfl (kk _ _ (WX_keep hX1 hf2) hM2)
set_option maxRecDepth 100000 in
set_option maxHeartbeats 4000000 in
theorem law_c6 {l : Launch} {G : Gm} {K : Cx} {b nS i : Nat} {xs : Nat → Int32} {S : SS} {c : HP} (X : LX l G K b nS xs) (hN : G.2.1 = 72) (hnS : nS ≤ 2048) (hi : i + 3 < nS) (hWX : WX G c S) (hWM : WM G c S) (kk : ∀ (S' : SS) (c' : HP), WX G c' S' → WM G c' S' → LW G K 916 (mkL [some (.ref b), some (.ref (G.1 0)), some (.ref (G.1 55)), some (.int (zI ((i : Nat) : Int)))]) [] c') : LW G K 270 (mkL [some (.ref b), some (.ref (G.1 0)), some (.ref (G.1 55)), some (.int (zI ((i : Nat) : Int)))]) [] c := by
  have hG := X.inj
  obtain ⟨tm, x, hs, s0, s1, o, sd⟩ := S
  refine L_aload_n (q := 271) X dL_law_270 rfl rfl ?_
  refine L_aload_n (q := 272) X dL_law_271 rfl rfl ?_
  refine L_iload_n (q := 273) X dL_law_272 rfl rfl ?_
  refine L_iconst (q := 274) X dL_law_273 rfl ?_
  refine L_iadd (q := 275) X dL_law_274 rfl ?_
  refine L_sld (q := 276) (k := i + 1) X dL_law_275 (by omega) (by omega) (by omega) rfl ?_
  refine L_V1i (q := 279) X (c_X8_nameAt hG (zI_rg _) hWX) mX8_nameAt kL_39 dL_law_276 (by omega) hWX.2.1 rfl ⟨(Nat.le_of_ble_eq_true rfl), (Nat.le_of_ble_eq_true rfl)⟩ (Nat.le_of_ble_eq_true rfl) rfl (fun v1 c1 h1 => ?_)
  obtain ⟨rfl, hX1, hf1⟩ := h1
  have hM1 := WM_keep hWM hf1
  refine L_aload_n (q := 280) X dL_law_279 rfl rfl ?_
  refine L_aload_n (q := 281) X dL_law_280 rfl rfl ?_
  refine L_iload_n (q := 282) X dL_law_281 rfl rfl ?_
  refine L_iconst (q := 283) X dL_law_282 rfl ?_
  refine L_iadd (q := 284) X dL_law_283 rfl ?_
  refine L_sld (q := 285) (k := i + 1) X dL_law_284 (by omega) (by omega) (by omega) rfl ?_
  obtain ⟨th, tw, pk, h55, -⟩ := hM1.2.1
  refine L_V1i (q := 288) X (c_X9_nameAt hG (zI_rg _) hM1) mX9_nameAt kL_42 dL_law_285 (by omega) h55 rfl ⟨(Nat.le_of_ble_eq_true rfl), (Nat.le_of_ble_eq_true rfl)⟩ (Nat.le_of_ble_eq_true rfl) rfl (fun v2 c2 h2 => ?_)
  obtain ⟨rfl, hM2, hf2⟩ := h2
  exact L_same (t := 916) X dL_law_288 rfl (kk _ _ (WX_keep hX1 hf2) hM2)
set_option maxRecDepth 100000 in
set_option maxHeartbeats 4000000 in
theorem law_c7 {l : Launch} {G : Gm} {K : Cx} {b nS i : Nat} {xs : Nat → Int32} {S : SS} {c : HP} (X : LX l G K b nS xs) (hN : G.2.1 = 72) (hnS : nS ≤ 2048) (hi : i + 3 < nS) (hWX : WX G c S) (hWM : WM G c S) (kk : ∀ (S' : SS) (c' : HP), WX G c' S' → WM G c' S' → LW G K 916 (mkL [some (.ref b), some (.ref (G.1 0)), some (.ref (G.1 55)), some (.int (zI ((i : Nat) : Int)))]) [] c') : LW G K 293 (mkL [some (.ref b), some (.ref (G.1 0)), some (.ref (G.1 55)), some (.int (zI ((i : Nat) : Int)))]) [] c := by
  have hG := X.inj
  obtain ⟨tm, x, hs, s0, s1, o, sd⟩ := S
  refine L_aload_n (q := 294) X dL_law_293 rfl rfl ?_
  refine L_V0i (q := 297) X (c_X8_redexCount hG hWX) mX8_redexCount kL_43 dL_law_294 (by omega) hWX.2.1 rfl ⟨(Nat.le_of_ble_eq_true rfl), (Nat.le_of_ble_eq_true rfl)⟩ (Nat.le_of_ble_eq_true rfl) rfl (fun v1 c1 h1 => ?_)
  obtain ⟨rfl, hX1, hf1⟩ := h1
  have hM1 := WM_keep hWM hf1
  refine L_aload_n (q := 298) X dL_law_297 rfl rfl ?_
  obtain ⟨th, tw, pk, h55, -⟩ := hM1.2.1
  refine L_V0i (q := 301) X (c_X9_redexCount hG hM1) mX9_redexCount kL_46 dL_law_298 (by omega) h55 rfl ⟨(Nat.le_of_ble_eq_true rfl), (Nat.le_of_ble_eq_true rfl)⟩ (Nat.le_of_ble_eq_true rfl) rfl (fun v2 c2 h2 => ?_)
  obtain ⟨rfl, hM2, hf2⟩ := h2
  exact L_same (t := 916) X dL_law_301 rfl (kk _ _ (WX_keep hX1 hf2) hM2)
set_option maxRecDepth 100000 in
set_option maxHeartbeats 4000000 in
theorem law_c8 {l : Launch} {G : Gm} {K : Cx} {b nS i : Nat} {xs : Nat → Int32} {S : SS} {c : HP} (X : LX l G K b nS xs) (hN : G.2.1 = 72) (hnS : nS ≤ 2048) (hi : i + 3 < nS) (hWX : WX G c S) (hWM : WM G c S) (kk : ∀ (S' : SS) (c' : HP), WX G c' S' → WM G c' S' → LW G K 916 (mkL [some (.ref b), some (.ref (G.1 0)), some (.ref (G.1 55)), some (.int (zI ((i : Nat) : Int)))]) [] c') : LW G K 306 (mkL [some (.ref b), some (.ref (G.1 0)), some (.ref (G.1 55)), some (.int (zI ((i : Nat) : Int)))]) [] c := by
  have hG := X.inj
  obtain ⟨tm, x, hs, s0, s1, o, sd⟩ := S
  refine L_aload_n (q := 307) X dL_law_306 rfl rfl ?_
  refine L_aload_n (q := 308) X dL_law_307 rfl rfl ?_
  refine L_iload_n (q := 309) X dL_law_308 rfl rfl ?_
  refine L_iconst (q := 310) X dL_law_309 rfl ?_
  refine L_iadd (q := 311) X dL_law_310 rfl ?_
  refine L_sld (q := 312) (k := i + 1) X dL_law_311 (by omega) (by omega) (by omega) rfl ?_
  refine L_V1i (q := 315) X (c_X8_chosenRedex hG (zI_rg _) hWX) mX8_chosenRedex kL_47 dL_law_312 (by omega) hWX.2.1 rfl ⟨(Nat.le_of_ble_eq_true rfl), (Nat.le_of_ble_eq_true rfl)⟩ (Nat.le_of_ble_eq_true rfl) rfl (fun v1 c1 h1 => ?_)
  obtain ⟨rfl, hX1, hf1⟩ := h1
  have hM1 := WM_keep hWM hf1
  refine L_aload_n (q := 316) X dL_law_315 rfl rfl ?_
  refine L_aload_n (q := 317) X dL_law_316 rfl rfl ?_
  refine L_iload_n (q := 318) X dL_law_317 rfl rfl ?_
  refine L_iconst (q := 319) X dL_law_318 rfl ?_
  refine L_iadd (q := 320) X dL_law_319 rfl ?_
  refine L_sld (q := 321) (k := i + 1) X dL_law_320 (by omega) (by omega) (by omega) rfl ?_
  obtain ⟨th, tw, pk, h55, -⟩ := hM1.2.1
  refine L_V1i (q := 324) X (c_X9_chosenRedex hG (zI_rg _) hM1) mX9_chosenRedex kL_50 dL_law_321 (by omega) h55 rfl ⟨(Nat.le_of_ble_eq_true rfl), (Nat.le_of_ble_eq_true rfl)⟩ (Nat.le_of_ble_eq_true rfl) rfl (fun v2 c2 h2 => ?_)
  obtain ⟨rfl, hM2, hf2⟩ := h2
  exact L_same (t := 916) X dL_law_324 rfl (kk _ _ (WX_keep hX1 hf2) hM2)
set_option maxRecDepth 100000 in
set_option maxHeartbeats 4000000 in
theorem law_c9 {l : Launch} {G : Gm} {K : Cx} {b nS i : Nat} {xs : Nat → Int32} {S : SS} {c : HP} (X : LX l G K b nS xs) (hN : G.2.1 = 72) (hnS : nS ≤ 2048) (hi : i + 3 < nS) (hWX : WX G c S) (hWM : WM G c S) (kk : ∀ (S' : SS) (c' : HP), WX G c' S' → WM G c' S' → LW G K 916 (mkL [some (.ref b), some (.ref (G.1 0)), some (.ref (G.1 55)), some (.int (zI ((i : Nat) : Int)))]) [] c') : LW G K 329 (mkL [some (.ref b), some (.ref (G.1 0)), some (.ref (G.1 55)), some (.int (zI ((i : Nat) : Int)))]) [] c := by
  have hG := X.inj
  obtain ⟨tm, x, hs, s0, s1, o, sd⟩ := S
  refine L_aload_n (q := 330) X dL_law_329 rfl rfl ?_
  refine L_V0i (q := 333) X (c_X8_freeVariables hG hWX) mX8_freeVariables kL_51 dL_law_330 (by omega) hWX.2.1 rfl ⟨(Nat.le_of_ble_eq_true rfl), (Nat.le_of_ble_eq_true rfl)⟩ (Nat.le_of_ble_eq_true rfl) rfl (fun v1 c1 h1 => ?_)
  obtain ⟨rfl, hX1, hf1⟩ := h1
  have hM1 := WM_keep hWM hf1
  refine L_aload_n (q := 334) X dL_law_333 rfl rfl ?_
  obtain ⟨th, tw, pk, h55, -⟩ := hM1.2.1
  refine L_V0i (q := 337) X (c_X9_freeVariables hG hM1) mX9_freeVariables kL_54 dL_law_334 (by omega) h55 rfl ⟨(Nat.le_of_ble_eq_true rfl), (Nat.le_of_ble_eq_true rfl)⟩ (Nat.le_of_ble_eq_true rfl) rfl (fun v2 c2 h2 => ?_)
  obtain ⟨rfl, hM2, hf2⟩ := h2
  exact L_same (t := 916) X dL_law_337 rfl (kk _ _ (WX_keep hX1 hf2) hM2)
set_option maxRecDepth 100000 in
set_option maxHeartbeats 4000000 in
theorem law_c10 {l : Launch} {G : Gm} {K : Cx} {b nS i : Nat} {xs : Nat → Int32} {S : SS} {c : HP} (X : LX l G K b nS xs) (hN : G.2.1 = 72) (hnS : nS ≤ 2048) (hi : i + 3 < nS) (hWX : WX G c S) (hWM : WM G c S) (kk : ∀ (S' : SS) (c' : HP), WX G c' S' → WM G c' S' → LW G K 916 (mkL [some (.ref b), some (.ref (G.1 0)), some (.ref (G.1 55)), some (.int (zI ((i : Nat) : Int)))]) [] c') : LW G K 342 (mkL [some (.ref b), some (.ref (G.1 0)), some (.ref (G.1 55)), some (.int (zI ((i : Nat) : Int)))]) [] c := by
  have hG := X.inj
  obtain ⟨tm, x, hs, s0, s1, o, sd⟩ := S
  refine L_aload_n (q := 343) X dL_law_342 rfl rfl ?_
  refine L_aload_n (q := 344) X dL_law_343 rfl rfl ?_
  refine L_iload_n (q := 345) X dL_law_344 rfl rfl ?_
  refine L_iconst (q := 346) X dL_law_345 rfl ?_
  refine L_iadd (q := 347) X dL_law_346 rfl ?_
  refine L_sld (q := 348) (k := i + 1) X dL_law_347 (by omega) (by omega) (by omega) rfl ?_
  refine L_V1i (q := 351) X (c_X8_step hG (zI_rg _) hWX) mX8_step kL_55 dL_law_348 (by omega) hWX.2.1 rfl ⟨(Nat.le_of_ble_eq_true rfl), (Nat.le_of_ble_eq_true rfl)⟩ (Nat.le_of_ble_eq_true rfl) rfl (fun v1 c1 h1 => ?_)
  obtain ⟨rfl, hX1, hf1⟩ := h1
  have hM1 := WM_keep hWM hf1
  refine L_aload_n (q := 352) X dL_law_351 rfl rfl ?_
  refine L_aload_n (q := 353) X dL_law_352 rfl rfl ?_
  refine L_iload_n (q := 354) X dL_law_353 rfl rfl ?_
  refine L_iconst (q := 355) X dL_law_354 rfl ?_
  refine L_iadd (q := 356) X dL_law_355 rfl ?_
  refine L_sld (q := 357) (k := i + 1) X dL_law_356 (by omega) (by omega) (by omega) rfl ?_
  obtain ⟨th, tw, pk, h55, -⟩ := hM1.2.1
  refine L_V1i (q := 360) X (c_X9_step hG (zI_rg _) hM1) mX9_step kL_58 dL_law_357 (by omega) h55 rfl ⟨(Nat.le_of_ble_eq_true rfl), (Nat.le_of_ble_eq_true rfl)⟩ (Nat.le_of_ble_eq_true rfl) rfl (fun v2 c2 h2 => ?_)
  obtain ⟨rfl, hM2, hf2⟩ := h2
  exact L_same (t := 916) X dL_law_360 rfl (kk _ _ (WX_keep hX1 hf2) hM2)
set_option maxRecDepth 100000 in
set_option maxHeartbeats 4000000 in
theorem law_c11 {l : Launch} {G : Gm} {K : Cx} {b nS i : Nat} {xs : Nat → Int32} {S : SS} {c : HP} (X : LX l G K b nS xs) (hN : G.2.1 = 72) (hnS : nS ≤ 2048) (hi : i + 3 < nS) (hWX : WX G c S) (hWM : WM G c S) (kk : ∀ (S' : SS) (c' : HP), WX G c' S' → WM G c' S' → LW G K 916 (mkL [some (.ref b), some (.ref (G.1 0)), some (.ref (G.1 55)), some (.int (zI ((i : Nat) : Int)))]) [] c') : LW G K 365 (mkL [some (.ref b), some (.ref (G.1 0)), some (.ref (G.1 55)), some (.int (zI ((i : Nat) : Int)))]) [] c := by
  have hG := X.inj
  obtain ⟨tm, x, hs, s0, s1, o, sd⟩ := S
  refine L_aload_n (q := 366) X dL_law_365 rfl rfl ?_
  refine L_aload_n (q := 367) X dL_law_366 rfl rfl ?_
  refine L_iload_n (q := 368) X dL_law_367 rfl rfl ?_
  refine L_iconst (q := 369) X dL_law_368 rfl ?_
  refine L_iadd (q := 370) X dL_law_369 rfl ?_
  refine L_sld (q := 371) (k := i + 1) X dL_law_370 (by omega) (by omega) (by omega) rfl ?_
  refine L_aload_n (q := 372) X dL_law_371 rfl rfl ?_
  refine L_iload_n (q := 373) X dL_law_372 rfl rfl ?_
  refine L_iconst (q := 374) X dL_law_373 rfl ?_
  refine L_iadd (q := 375) X dL_law_374 rfl ?_
  refine L_sld (q := 376) (k := i + 2) X dL_law_375 (by omega) (by omega) (by omega) rfl ?_
  refine L_V2i (q := 379) X (c_X8_run hG (zI_rg _) (zI_rg _) hWX) mX8_run kL_59 dL_law_376 (by omega) hWX.2.1 rfl ⟨(Nat.le_of_ble_eq_true rfl), (Nat.le_of_ble_eq_true rfl)⟩ (Nat.le_of_ble_eq_true rfl) rfl (fun v1 c1 h1 => ?_)
  obtain ⟨rfl, hX1, hf1⟩ := h1
  have hM1 := WM_keep hWM hf1
  refine L_aload_n (q := 380) X dL_law_379 rfl rfl ?_
  refine L_aload_n (q := 381) X dL_law_380 rfl rfl ?_
  refine L_iload_n (q := 382) X dL_law_381 rfl rfl ?_
  refine L_iconst (q := 383) X dL_law_382 rfl ?_
  refine L_iadd (q := 384) X dL_law_383 rfl ?_
  refine L_sld (q := 385) (k := i + 1) X dL_law_384 (by omega) (by omega) (by omega) rfl ?_
  refine L_aload_n (q := 386) X dL_law_385 rfl rfl ?_
  refine L_iload_n (q := 387) X dL_law_386 rfl rfl ?_
  refine L_iconst (q := 388) X dL_law_387 rfl ?_
  refine L_iadd (q := 389) X dL_law_388 rfl ?_
  refine L_sld (q := 390) (k := i + 2) X dL_law_389 (by omega) (by omega) (by omega) rfl ?_
  obtain ⟨th, tw, pk, h55, -⟩ := hM1.2.1
  refine L_V2i (q := 393) X (c_X9_run hG (zI_rg _) (zI_rg _) hM1) mX9_run kL_63 dL_law_390 (by omega) h55 rfl ⟨(Nat.le_of_ble_eq_true rfl), (Nat.le_of_ble_eq_true rfl)⟩ (Nat.le_of_ble_eq_true rfl) rfl (fun v2 c2 h2 => ?_)
  obtain ⟨rfl, hM2, hf2⟩ := h2
  exact L_same (t := 916) X dL_law_393 rfl (kk _ _ (WX_keep hX1 hf2) hM2)
set_option maxRecDepth 100000 in
set_option maxHeartbeats 4000000 in
theorem law_c12 {l : Launch} {G : Gm} {K : Cx} {b nS i : Nat} {xs : Nat → Int32} {S : SS} {c : HP} (X : LX l G K b nS xs) (hN : G.2.1 = 72) (hnS : nS ≤ 2048) (hi : i + 3 < nS) (hWX : WX G c S) (hWM : WM G c S) (kk : ∀ (S' : SS) (c' : HP), WX G c' S' → WM G c' S' → LW G K 916 (mkL [some (.ref b), some (.ref (G.1 0)), some (.ref (G.1 55)), some (.int (zI ((i : Nat) : Int)))]) [] c') : LW G K 398 (mkL [some (.ref b), some (.ref (G.1 0)), some (.ref (G.1 55)), some (.int (zI ((i : Nat) : Int)))]) [] c := by
  have hG := X.inj
  obtain ⟨tm, x, hs, s0, s1, o, sd⟩ := S
  refine L_aload_n (q := 399) X dL_law_398 rfl rfl ?_
  refine L_V0i (q := 402) X (c_X8_abstractTerm hG hWX) mX8_abstractTerm kL_64 dL_law_399 (by omega) hWX.2.1 rfl ⟨(Nat.le_of_ble_eq_true rfl), (Nat.le_of_ble_eq_true rfl)⟩ (Nat.le_of_ble_eq_true rfl) rfl (fun v1 c1 h1 => ?_)
  obtain ⟨rfl, hX1, hf1⟩ := h1
  have hM1 := WM_keep hWM hf1
  refine L_aload_n (q := 403) X dL_law_402 rfl rfl ?_
  obtain ⟨th, tw, pk, h55, -⟩ := hM1.2.1
  refine L_V0i (q := 406) X (c_X9_abstractTerm hG hM1) mX9_abstractTerm kL_67 dL_law_403 (by omega) h55 rfl ⟨(Nat.le_of_ble_eq_true rfl), (Nat.le_of_ble_eq_true rfl)⟩ (Nat.le_of_ble_eq_true rfl) rfl (fun v2 c2 h2 => ?_)
  obtain ⟨rfl, hM2, hf2⟩ := h2
  exact L_same (t := 916) X dL_law_406 rfl (kk _ _ (WX_keep hX1 hf2) hM2)
set_option maxRecDepth 100000 in
set_option maxHeartbeats 4000000 in
theorem law_c13 {l : Launch} {G : Gm} {K : Cx} {b nS i : Nat} {xs : Nat → Int32} {S : SS} {c : HP} (X : LX l G K b nS xs) (hN : G.2.1 = 72) (hnS : nS ≤ 2048) (hi : i + 3 < nS) (hWX : WX G c S) (hWM : WM G c S) (kk : ∀ (S' : SS) (c' : HP), WX G c' S' → WM G c' S' → LW G K 916 (mkL [some (.ref b), some (.ref (G.1 0)), some (.ref (G.1 55)), some (.int (zI ((i : Nat) : Int)))]) [] c') : LW G K 411 (mkL [some (.ref b), some (.ref (G.1 0)), some (.ref (G.1 55)), some (.int (zI ((i : Nat) : Int)))]) [] c := by
  have hG := X.inj
  obtain ⟨tm, x, hs, s0, s1, o, sd⟩ := S
  refine L_aload_n (q := 412) X dL_law_411 rfl rfl ?_
  refine L_aload_n (q := 413) X dL_law_412 rfl rfl ?_
  refine L_iload_n (q := 414) X dL_law_413 rfl rfl ?_
  refine L_iconst (q := 415) X dL_law_414 rfl ?_
  refine L_iadd (q := 416) X dL_law_415 rfl ?_
  refine L_sld (q := 417) (k := i + 1) X dL_law_416 (by omega) (by omega) (by omega) rfl ?_
  refine L_V1i (q := 420) X (c_X8_applyTo hG (zI_rg _) hWX) mX8_applyTo kL_68 dL_law_417 (by omega) hWX.2.1 rfl ⟨(Nat.le_of_ble_eq_true rfl), (Nat.le_of_ble_eq_true rfl)⟩ (Nat.le_of_ble_eq_true rfl) rfl (fun v1 c1 h1 => ?_)
  obtain ⟨rfl, hX1, hf1⟩ := h1
  have hM1 := WM_keep hWM hf1
  refine L_aload_n (q := 421) X dL_law_420 rfl rfl ?_
  refine L_aload_n (q := 422) X dL_law_421 rfl rfl ?_
  refine L_iload_n (q := 423) X dL_law_422 rfl rfl ?_
  refine L_iconst (q := 424) X dL_law_423 rfl ?_
  refine L_iadd (q := 425) X dL_law_424 rfl ?_
  refine L_sld (q := 426) (k := i + 1) X dL_law_425 (by omega) (by omega) (by omega) rfl ?_
  obtain ⟨th, tw, pk, h55, -⟩ := hM1.2.1
  refine L_V1i (q := 429) X (c_X9_applyTo hG (zI_rg _) hM1) mX9_applyTo kL_71 dL_law_426 (by omega) h55 rfl ⟨(Nat.le_of_ble_eq_true rfl), (Nat.le_of_ble_eq_true rfl)⟩ (Nat.le_of_ble_eq_true rfl) rfl (fun v2 c2 h2 => ?_)
  obtain ⟨rfl, hM2, hf2⟩ := h2
  exact L_same (t := 916) X dL_law_429 rfl (kk _ _ (WX_keep hX1 hf2) hM2)
set_option maxRecDepth 100000 in
set_option maxHeartbeats 4000000 in
theorem law_c14 {l : Launch} {G : Gm} {K : Cx} {b nS i : Nat} {xs : Nat → Int32} {S : SS} {c : HP} (X : LX l G K b nS xs) (hN : G.2.1 = 72) (hnS : nS ≤ 2048) (hi : i + 3 < nS) (hWX : WX G c S) (hWM : WM G c S) (kk : ∀ (S' : SS) (c' : HP), WX G c' S' → WM G c' S' → LW G K 916 (mkL [some (.ref b), some (.ref (G.1 0)), some (.ref (G.1 55)), some (.int (zI ((i : Nat) : Int)))]) [] c') : LW G K 434 (mkL [some (.ref b), some (.ref (G.1 0)), some (.ref (G.1 55)), some (.int (zI ((i : Nat) : Int)))]) [] c := by
  have hG := X.inj
  obtain ⟨tm, x, hs, s0, s1, o, sd⟩ := S
  refine L_aload_n (q := 435) X dL_law_434 rfl rfl ?_
  refine L_aload_n (q := 436) X dL_law_435 rfl rfl ?_
  refine L_iload_n (q := 437) X dL_law_436 rfl rfl ?_
  refine L_iconst (q := 438) X dL_law_437 rfl ?_
  refine L_iadd (q := 439) X dL_law_438 rfl ?_
  refine L_sld (q := 440) (k := i + 1) X dL_law_439 (by omega) (by omega) (by omega) rfl ?_
  refine L_aload_n (q := 441) X dL_law_440 rfl rfl ?_
  refine L_iload_n (q := 442) X dL_law_441 rfl rfl ?_
  refine L_iconst (q := 443) X dL_law_442 rfl ?_
  refine L_iadd (q := 444) X dL_law_443 rfl ?_
  refine L_sld (q := 445) (k := i + 2) X dL_law_444 (by omega) (by omega) (by omega) rfl ?_
  refine L_V2i (q := 448) X (c_X8_substitute hG (zI_rg _) (zI_rg _) hWX) mX8_substitute kL_72 dL_law_445 (by omega) hWX.2.1 rfl ⟨(Nat.le_of_ble_eq_true rfl), (Nat.le_of_ble_eq_true rfl)⟩ (Nat.le_of_ble_eq_true rfl) rfl (fun v1 c1 h1 => ?_)
  obtain ⟨rfl, hX1, hf1⟩ := h1
  have hM1 := WM_keep hWM hf1
  refine L_aload_n (q := 449) X dL_law_448 rfl rfl ?_
  refine L_aload_n (q := 450) X dL_law_449 rfl rfl ?_
  refine L_iload_n (q := 451) X dL_law_450 rfl rfl ?_
  refine L_iconst (q := 452) X dL_law_451 rfl ?_
  refine L_iadd (q := 453) X dL_law_452 rfl ?_
  refine L_sld (q := 454) (k := i + 1) X dL_law_453 (by omega) (by omega) (by omega) rfl ?_
  refine L_aload_n (q := 455) X dL_law_454 rfl rfl ?_
  refine L_iload_n (q := 456) X dL_law_455 rfl rfl ?_
  refine L_iconst (q := 457) X dL_law_456 rfl ?_
  refine L_iadd (q := 458) X dL_law_457 rfl ?_
  refine L_sld (q := 459) (k := i + 2) X dL_law_458 (by omega) (by omega) (by omega) rfl ?_
  obtain ⟨th, tw, pk, h55, -⟩ := hM1.2.1
  refine L_V2i (q := 462) X (c_X9_substitute hG (zI_rg _) (zI_rg _) hM1) mX9_substitute kL_75 dL_law_459 (by omega) h55 rfl ⟨(Nat.le_of_ble_eq_true rfl), (Nat.le_of_ble_eq_true rfl)⟩ (Nat.le_of_ble_eq_true rfl) rfl (fun v2 c2 h2 => ?_)
  obtain ⟨rfl, hM2, hf2⟩ := h2
  exact L_same (t := 916) X dL_law_462 rfl (kk _ _ (WX_keep hX1 hf2) hM2)
set_option maxRecDepth 100000 in
set_option maxHeartbeats 4000000 in
theorem law_c15 {l : Launch} {G : Gm} {K : Cx} {b nS i : Nat} {xs : Nat → Int32} {S : SS} {c : HP} (X : LX l G K b nS xs) (hN : G.2.1 = 72) (hnS : nS ≤ 2048) (hi : i + 3 < nS) (hWX : WX G c S) (hWM : WM G c S) (kk : ∀ (S' : SS) (c' : HP), WX G c' S' → WM G c' S' → LW G K 916 (mkL [some (.ref b), some (.ref (G.1 0)), some (.ref (G.1 55)), some (.int (zI ((i : Nat) : Int)))]) [] c') : LW G K 467 (mkL [some (.ref b), some (.ref (G.1 0)), some (.ref (G.1 55)), some (.int (zI ((i : Nat) : Int)))]) [] c := by
  have hG := X.inj
  obtain ⟨tm, x, hs, s0, s1, o, sd⟩ := S
  refine L_aload_n (q := 468) X dL_law_467 rfl rfl ?_
  refine L_V0i (q := 471) X (c_X8_undo hG hWX) mX8_undo kL_76 dL_law_468 (by omega) hWX.2.1 rfl ⟨(Nat.le_of_ble_eq_true rfl), (Nat.le_of_ble_eq_true rfl)⟩ (Nat.le_of_ble_eq_true rfl) rfl (fun v1 c1 h1 => ?_)
  obtain ⟨rfl, hX1, hf1⟩ := h1
  have hM1 := WM_keep hWM hf1
  refine L_aload_n (q := 472) X dL_law_471 rfl rfl ?_
  obtain ⟨th, tw, pk, h55, -⟩ := hM1.2.1
  refine L_V0i (q := 475) X (c_X9_undo hG hM1) mX9_undo kL_79 dL_law_472 (by omega) h55 rfl ⟨(Nat.le_of_ble_eq_true rfl), (Nat.le_of_ble_eq_true rfl)⟩ (Nat.le_of_ble_eq_true rfl) rfl (fun v2 c2 h2 => ?_)
  obtain ⟨rfl, hM2, hf2⟩ := h2
  exact L_same (t := 916) X dL_law_475 rfl (kk _ _ (WX_keep hX1 hf2) hM2)
set_option maxRecDepth 100000 in
set_option maxHeartbeats 4000000 in
theorem law_c16 {l : Launch} {G : Gm} {K : Cx} {b nS i : Nat} {xs : Nat → Int32} {S : SS} {c : HP} (X : LX l G K b nS xs) (hN : G.2.1 = 72) (hnS : nS ≤ 2048) (hi : i + 3 < nS) (hWX : WX G c S) (hWM : WM G c S) (kk : ∀ (S' : SS) (c' : HP), WX G c' S' → WM G c' S' → LW G K 916 (mkL [some (.ref b), some (.ref (G.1 0)), some (.ref (G.1 55)), some (.int (zI ((i : Nat) : Int)))]) [] c') : LW G K 480 (mkL [some (.ref b), some (.ref (G.1 0)), some (.ref (G.1 55)), some (.int (zI ((i : Nat) : Int)))]) [] c := by
  have hG := X.inj
  obtain ⟨tm, x, hs, s0, s1, o, sd⟩ := S
  refine L_aload_n (q := 481) X dL_law_480 rfl rfl ?_
  refine L_aload_n (q := 482) X dL_law_481 rfl rfl ?_
  refine L_iload_n (q := 483) X dL_law_482 rfl rfl ?_
  refine L_iconst (q := 484) X dL_law_483 rfl ?_
  refine L_iadd (q := 485) X dL_law_484 rfl ?_
  refine L_sld (q := 486) (k := i + 1) X dL_law_485 (by omega) (by omega) (by omega) rfl ?_
  refine L_aload_n (q := 487) X dL_law_486 rfl rfl ?_
  refine L_iload_n (q := 488) X dL_law_487 rfl rfl ?_
  refine L_iconst (q := 489) X dL_law_488 rfl ?_
  refine L_iadd (q := 490) X dL_law_489 rfl ?_
  refine L_sld (q := 491) (k := i + 2) X dL_law_490 (by omega) (by omega) (by omega) rfl ?_
  refine L_V2i (q := 494) X (c_X8_stepsOfRun hG (zI_rg _) (zI_rg _) hWX) mX8_stepsOfRun kL_80 dL_law_491 (by omega) hWX.2.1 rfl ⟨(Nat.le_of_ble_eq_true rfl), (Nat.le_of_ble_eq_true rfl)⟩ (Nat.le_of_ble_eq_true rfl) rfl (fun v1 c1 h1 => ?_)
  obtain ⟨rfl, hX1, hf1⟩ := h1
  have hM1 := WM_keep hWM hf1
  refine L_aload_n (q := 495) X dL_law_494 rfl rfl ?_
  refine L_aload_n (q := 496) X dL_law_495 rfl rfl ?_
  refine L_iload_n (q := 497) X dL_law_496 rfl rfl ?_
  refine L_iconst (q := 498) X dL_law_497 rfl ?_
  refine L_iadd (q := 499) X dL_law_498 rfl ?_
  refine L_sld (q := 500) (k := i + 1) X dL_law_499 (by omega) (by omega) (by omega) rfl ?_
  refine L_aload_n (q := 501) X dL_law_500 rfl rfl ?_
  refine L_iload_n (q := 502) X dL_law_501 rfl rfl ?_
  refine L_iconst (q := 503) X dL_law_502 rfl ?_
  refine L_iadd (q := 504) X dL_law_503 rfl ?_
  refine L_sld (q := 505) (k := i + 2) X dL_law_504 (by omega) (by omega) (by omega) rfl ?_
  obtain ⟨th, tw, pk, h55, -⟩ := hM1.2.1
  refine L_V2i (q := 508) X (c_X9_stepsOfRun hG (zI_rg _) (zI_rg _) hM1) mX9_stepsOfRun kL_83 dL_law_505 (by omega) h55 rfl ⟨(Nat.le_of_ble_eq_true rfl), (Nat.le_of_ble_eq_true rfl)⟩ (Nat.le_of_ble_eq_true rfl) rfl (fun v2 c2 h2 => ?_)
  obtain ⟨rfl, hM2, hf2⟩ := h2
  exact L_same (t := 916) X dL_law_508 rfl (kk _ _ (WX_keep hX1 hf2) hM2)
set_option maxRecDepth 100000 in
set_option maxHeartbeats 4000000 in
theorem law_c17 {l : Launch} {G : Gm} {K : Cx} {b nS i : Nat} {xs : Nat → Int32} {S : SS} {c : HP} (X : LX l G K b nS xs) (hN : G.2.1 = 72) (hnS : nS ≤ 2048) (hi : i + 3 < nS) (hWX : WX G c S) (hWM : WM G c S) (kk : ∀ (S' : SS) (c' : HP), WX G c' S' → WM G c' S' → LW G K 916 (mkL [some (.ref b), some (.ref (G.1 0)), some (.ref (G.1 55)), some (.int (zI ((i : Nat) : Int)))]) [] c') : LW G K 513 (mkL [some (.ref b), some (.ref (G.1 0)), some (.ref (G.1 55)), some (.int (zI ((i : Nat) : Int)))]) [] c := by
  have hG := X.inj
  obtain ⟨tm, x, hs, s0, s1, o, sd⟩ := S
  refine L_aload_n (q := 514) X dL_law_513 rfl rfl ?_
  refine L_aload_n (q := 515) X dL_law_514 rfl rfl ?_
  refine L_iload_n (q := 516) X dL_law_515 rfl rfl ?_
  refine L_iconst (q := 517) X dL_law_516 rfl ?_
  refine L_iadd (q := 518) X dL_law_517 rfl ?_
  refine L_sld (q := 519) (k := i + 1) X dL_law_518 (by omega) (by omega) (by omega) rfl ?_
  refine L_aload_n (q := 520) X dL_law_519 rfl rfl ?_
  refine L_iload_n (q := 521) X dL_law_520 rfl rfl ?_
  refine L_iconst (q := 522) X dL_law_521 rfl ?_
  refine L_iadd (q := 523) X dL_law_522 rfl ?_
  refine L_sld (q := 524) (k := i + 2) X dL_law_523 (by omega) (by omega) (by omega) rfl ?_
  refine L_V2i (q := 527) X (c_X8_sizeAfterRun hG (zI_rg _) (zI_rg _) hWX) mX8_sizeAfterRun kL_84 dL_law_524 (by omega) hWX.2.1 rfl ⟨(Nat.le_of_ble_eq_true rfl), (Nat.le_of_ble_eq_true rfl)⟩ (Nat.le_of_ble_eq_true rfl) rfl (fun v1 c1 h1 => ?_)
  obtain ⟨rfl, hX1, hf1⟩ := h1
  have hM1 := WM_keep hWM hf1
  refine L_aload_n (q := 528) X dL_law_527 rfl rfl ?_
  refine L_aload_n (q := 529) X dL_law_528 rfl rfl ?_
  refine L_iload_n (q := 530) X dL_law_529 rfl rfl ?_
  refine L_iconst (q := 531) X dL_law_530 rfl ?_
  refine L_iadd (q := 532) X dL_law_531 rfl ?_
  refine L_sld (q := 533) (k := i + 1) X dL_law_532 (by omega) (by omega) (by omega) rfl ?_
  refine L_aload_n (q := 534) X dL_law_533 rfl rfl ?_
  refine L_iload_n (q := 535) X dL_law_534 rfl rfl ?_
  refine L_iconst (q := 536) X dL_law_535 rfl ?_
  refine L_iadd (q := 537) X dL_law_536 rfl ?_
  refine L_sld (q := 538) (k := i + 2) X dL_law_537 (by omega) (by omega) (by omega) rfl ?_
  obtain ⟨th, tw, pk, h55, -⟩ := hM1.2.1
  refine L_V2i (q := 541) X (c_X9_sizeAfterRun hG (zI_rg _) (zI_rg _) hM1) mX9_sizeAfterRun kL_87 dL_law_538 (by omega) h55 rfl ⟨(Nat.le_of_ble_eq_true rfl), (Nat.le_of_ble_eq_true rfl)⟩ (Nat.le_of_ble_eq_true rfl) rfl (fun v2 c2 h2 => ?_)
  obtain ⟨rfl, hM2, hf2⟩ := h2
  exact L_same (t := 916) X dL_law_541 rfl (kk _ _ (WX_keep hX1 hf2) hM2)
set_option maxRecDepth 100000 in
set_option maxHeartbeats 4000000 in
theorem law_c18 {l : Launch} {G : Gm} {K : Cx} {b nS i : Nat} {xs : Nat → Int32} {S : SS} {c : HP} (X : LX l G K b nS xs) (hN : G.2.1 = 72) (hnS : nS ≤ 2048) (hi : i + 3 < nS) (hWX : WX G c S) (hWM : WM G c S) (kk : ∀ (S' : SS) (c' : HP), WX G c' S' → WM G c' S' → LW G K 916 (mkL [some (.ref b), some (.ref (G.1 0)), some (.ref (G.1 55)), some (.int (zI ((i : Nat) : Int)))]) [] c') : LW G K 546 (mkL [some (.ref b), some (.ref (G.1 0)), some (.ref (G.1 55)), some (.int (zI ((i : Nat) : Int)))]) [] c := by
  have hG := X.inj
  obtain ⟨tm, x, hs, s0, s1, o, sd⟩ := S
  refine L_aload_n (q := 547) X dL_law_546 rfl rfl ?_
  refine L_V0i (q := 550) X (c_X8_normalSize hG hWX) mX8_normalSize kL_88 dL_law_547 (by omega) hWX.2.1 rfl ⟨(Nat.le_of_ble_eq_true rfl), (Nat.le_of_ble_eq_true rfl)⟩ (Nat.le_of_ble_eq_true rfl) rfl (fun v1 c1 h1 => ?_)
  obtain ⟨rfl, hX1, hf1⟩ := h1
  have hM1 := WM_keep hWM hf1
  refine L_aload_n (q := 551) X dL_law_550 rfl rfl ?_
  obtain ⟨th, tw, pk, h55, -⟩ := hM1.2.1
  refine L_V0i (q := 554) X (c_X9_normalSize hG hM1) mX9_normalSize kL_91 dL_law_551 (by omega) h55 rfl ⟨(Nat.le_of_ble_eq_true rfl), (Nat.le_of_ble_eq_true rfl)⟩ (Nat.le_of_ble_eq_true rfl) rfl (fun v2 c2 h2 => ?_)
  obtain ⟨rfl, hM2, hf2⟩ := h2
  exact L_same (t := 916) X dL_law_554 rfl (kk _ _ (WX_keep hX1 hf2) hM2)
set_option maxRecDepth 100000 in
set_option maxHeartbeats 4000000 in
theorem law_c19 {l : Launch} {G : Gm} {K : Cx} {b nS i : Nat} {xs : Nat → Int32} {S : SS} {c : HP} (X : LX l G K b nS xs) (hN : G.2.1 = 72) (hnS : nS ≤ 2048) (hi : i + 3 < nS) (hWX : WX G c S) (hWM : WM G c S) (kk : ∀ (S' : SS) (c' : HP), WX G c' S' → WM G c' S' → LW G K 916 (mkL [some (.ref b), some (.ref (G.1 0)), some (.ref (G.1 55)), some (.int (zI ((i : Nat) : Int)))]) [] c') : LW G K 559 (mkL [some (.ref b), some (.ref (G.1 0)), some (.ref (G.1 55)), some (.int (zI ((i : Nat) : Int)))]) [] c := by
  have hG := X.inj
  obtain ⟨tm, x, hs, s0, s1, o, sd⟩ := S
  refine L_aload_n (q := 560) X dL_law_559 rfl rfl ?_
  refine L_aload_n (q := 561) X dL_law_560 rfl rfl ?_
  refine L_iload_n (q := 562) X dL_law_561 rfl rfl ?_
  refine L_iconst (q := 563) X dL_law_562 rfl ?_
  refine L_iadd (q := 564) X dL_law_563 rfl ?_
  refine L_sld (q := 565) (k := i + 1) X dL_law_564 (by omega) (by omega) (by omega) rfl ?_
  refine L_V1i (q := 568) X (c_X8_normalTokenAt hG (zI_rg _) hWX) mX8_normalTokenAt kL_92 dL_law_565 (by omega) hWX.2.1 rfl ⟨(Nat.le_of_ble_eq_true rfl), (Nat.le_of_ble_eq_true rfl)⟩ (Nat.le_of_ble_eq_true rfl) rfl (fun v1 c1 h1 => ?_)
  obtain ⟨rfl, hX1, hf1⟩ := h1
  have hM1 := WM_keep hWM hf1
  refine L_aload_n (q := 569) X dL_law_568 rfl rfl ?_
  refine L_aload_n (q := 570) X dL_law_569 rfl rfl ?_
  refine L_iload_n (q := 571) X dL_law_570 rfl rfl ?_
  refine L_iconst (q := 572) X dL_law_571 rfl ?_
  refine L_iadd (q := 573) X dL_law_572 rfl ?_
  refine L_sld (q := 574) (k := i + 1) X dL_law_573 (by omega) (by omega) (by omega) rfl ?_
  obtain ⟨th, tw, pk, h55, -⟩ := hM1.2.1
  refine L_V1i (q := 577) X (c_X9_normalTokenAt hG (zI_rg _) hM1) mX9_normalTokenAt kL_95 dL_law_574 (by omega) h55 rfl ⟨(Nat.le_of_ble_eq_true rfl), (Nat.le_of_ble_eq_true rfl)⟩ (Nat.le_of_ble_eq_true rfl) rfl (fun v2 c2 h2 => ?_)
  obtain ⟨rfl, hM2, hf2⟩ := h2
  exact L_same (t := 916) X dL_law_577 rfl (kk _ _ (WX_keep hX1 hf2) hM2)
set_option maxRecDepth 100000 in
set_option maxHeartbeats 4000000 in
theorem law_c20 {l : Launch} {G : Gm} {K : Cx} {b nS i : Nat} {xs : Nat → Int32} {S : SS} {c : HP} (X : LX l G K b nS xs) (hN : G.2.1 = 72) (hnS : nS ≤ 2048) (hi : i + 3 < nS) (hWX : WX G c S) (hWM : WM G c S) (kk : ∀ (S' : SS) (c' : HP), WX G c' S' → WM G c' S' → LW G K 916 (mkL [some (.ref b), some (.ref (G.1 0)), some (.ref (G.1 55)), some (.int (zI ((i : Nat) : Int)))]) [] c') : LW G K 582 (mkL [some (.ref b), some (.ref (G.1 0)), some (.ref (G.1 55)), some (.int (zI ((i : Nat) : Int)))]) [] c := by
  have hG := X.inj
  obtain ⟨tm, x, hs, s0, s1, o, sd⟩ := S
  refine L_aload_n (q := 583) X dL_law_582 rfl rfl ?_
  refine L_aload_n (q := 584) X dL_law_583 rfl rfl ?_
  refine L_iload_n (q := 585) X dL_law_584 rfl rfl ?_
  refine L_iconst (q := 586) X dL_law_585 rfl ?_
  refine L_iadd (q := 587) X dL_law_586 rfl ?_
  refine L_sld (q := 588) (k := i + 1) X dL_law_587 (by omega) (by omega) (by omega) rfl ?_
  refine L_V1i (q := 591) X (c_X8_isEquivalent hG (zI_rg _) hWX) mX8_isEquivalent kL_96 dL_law_588 (by omega) hWX.2.1 rfl ⟨(Nat.le_of_ble_eq_true rfl), (Nat.le_of_ble_eq_true rfl)⟩ (Nat.le_of_ble_eq_true rfl) rfl (fun v1 c1 h1 => ?_)
  obtain ⟨rfl, hX1, hf1⟩ := h1
  have hM1 := WM_keep hWM hf1
  refine L_aload_n (q := 592) X dL_law_591 rfl rfl ?_
  refine L_aload_n (q := 593) X dL_law_592 rfl rfl ?_
  refine L_iload_n (q := 594) X dL_law_593 rfl rfl ?_
  refine L_iconst (q := 595) X dL_law_594 rfl ?_
  refine L_iadd (q := 596) X dL_law_595 rfl ?_
  refine L_sld (q := 597) (k := i + 1) X dL_law_596 (by omega) (by omega) (by omega) rfl ?_
  obtain ⟨th, tw, pk, h55, -⟩ := hM1.2.1
  refine L_V1i (q := 600) X (c_X9_isEquivalent hG (zI_rg _) hM1) mX9_isEquivalent kL_99 dL_law_597 (by omega) h55 rfl ⟨(Nat.le_of_ble_eq_true rfl), (Nat.le_of_ble_eq_true rfl)⟩ (Nat.le_of_ble_eq_true rfl) rfl (fun v2 c2 h2 => ?_)
  obtain ⟨rfl, hM2, hf2⟩ := h2
  exact L_same (t := 916) X dL_law_600 rfl (kk _ _ (WX_keep hX1 hf2) hM2)
set_option maxRecDepth 100000 in
set_option maxHeartbeats 4000000 in
theorem law_c21 {l : Launch} {G : Gm} {K : Cx} {b nS i : Nat} {xs : Nat → Int32} {S : SS} {c : HP} (X : LX l G K b nS xs) (hN : G.2.1 = 72) (hnS : nS ≤ 2048) (hi : i + 3 < nS) (hWX : WX G c S) (hWM : WM G c S) (kk : ∀ (S' : SS) (c' : HP), WX G c' S' → WM G c' S' → LW G K 916 (mkL [some (.ref b), some (.ref (G.1 0)), some (.ref (G.1 55)), some (.int (zI ((i : Nat) : Int)))]) [] c') : LW G K 605 (mkL [some (.ref b), some (.ref (G.1 0)), some (.ref (G.1 55)), some (.int (zI ((i : Nat) : Int)))]) [] c := by
  have hG := X.inj
  obtain ⟨tm, x, hs, s0, s1, o, sd⟩ := S
  refine L_aload_n (q := 606) X dL_law_605 rfl rfl ?_
  refine L_aload_n (q := 607) X dL_law_606 rfl rfl ?_
  refine L_iload_n (q := 608) X dL_law_607 rfl rfl ?_
  refine L_iconst (q := 609) X dL_law_608 rfl ?_
  refine L_iadd (q := 610) X dL_law_609 rfl ?_
  refine L_sld (q := 611) (k := i + 1) X dL_law_610 (by omega) (by omega) (by omega) rfl ?_
  refine L_aload_n (q := 612) X dL_law_611 rfl rfl ?_
  refine L_iload_n (q := 613) X dL_law_612 rfl rfl ?_
  refine L_iconst (q := 614) X dL_law_613 rfl ?_
  refine L_iadd (q := 615) X dL_law_614 rfl ?_
  refine L_sld (q := 616) (k := i + 2) X dL_law_615 (by omega) (by omega) (by omega) rfl ?_
  refine L_V2i (q := 619) X (c_X8_machineSteps hG (zI_rg _) (zI_rg _) hWX) mX8_machineSteps kL_100 dL_law_616 (by omega) hWX.2.1 rfl ⟨(Nat.le_of_ble_eq_true rfl), (Nat.le_of_ble_eq_true rfl)⟩ (Nat.le_of_ble_eq_true rfl) rfl (fun v1 c1 h1 => ?_)
  obtain ⟨rfl, hX1, hf1⟩ := h1
  have hM1 := WM_keep hWM hf1
  refine L_aload_n (q := 620) X dL_law_619 rfl rfl ?_
  refine L_aload_n (q := 621) X dL_law_620 rfl rfl ?_
  refine L_iload_n (q := 622) X dL_law_621 rfl rfl ?_
  refine L_iconst (q := 623) X dL_law_622 rfl ?_
  refine L_iadd (q := 624) X dL_law_623 rfl ?_
  refine L_sld (q := 625) (k := i + 1) X dL_law_624 (by omega) (by omega) (by omega) rfl ?_
  refine L_aload_n (q := 626) X dL_law_625 rfl rfl ?_
  refine L_iload_n (q := 627) X dL_law_626 rfl rfl ?_
  refine L_iconst (q := 628) X dL_law_627 rfl ?_
  refine L_iadd (q := 629) X dL_law_628 rfl ?_
  refine L_sld (q := 630) (k := i + 2) X dL_law_629 (by omega) (by omega) (by omega) rfl ?_
  obtain ⟨th, tw, pk, h55, -⟩ := hM1.2.1
  refine L_V2i (q := 633) X (c_X9_machineSteps hG (zI_rg _) (zI_rg _) hM1) mX9_machineSteps kL_103 dL_law_630 (by omega) h55 rfl ⟨(Nat.le_of_ble_eq_true rfl), (Nat.le_of_ble_eq_true rfl)⟩ (Nat.le_of_ble_eq_true rfl) rfl (fun v2 c2 h2 => ?_)
  obtain ⟨rfl, hM2, hf2⟩ := h2
  exact L_same (t := 916) X dL_law_633 rfl (kk _ _ (WX_keep hX1 hf2) hM2)
set_option maxRecDepth 100000 in
set_option maxHeartbeats 4000000 in
theorem law_c22 {l : Launch} {G : Gm} {K : Cx} {b nS i : Nat} {xs : Nat → Int32} {S : SS} {c : HP} (X : LX l G K b nS xs) (hN : G.2.1 = 72) (hnS : nS ≤ 2048) (hi : i + 3 < nS) (hWX : WX G c S) (hWM : WM G c S) (kk : ∀ (S' : SS) (c' : HP), WX G c' S' → WM G c' S' → LW G K 916 (mkL [some (.ref b), some (.ref (G.1 0)), some (.ref (G.1 55)), some (.int (zI ((i : Nat) : Int)))]) [] c') : LW G K 638 (mkL [some (.ref b), some (.ref (G.1 0)), some (.ref (G.1 55)), some (.int (zI ((i : Nat) : Int)))]) [] c := by
  have hG := X.inj
  obtain ⟨tm, x, hs, s0, s1, o, sd⟩ := S
  refine L_aload_n (q := 639) X dL_law_638 rfl rfl ?_
  refine L_aload_n (q := 640) X dL_law_639 rfl rfl ?_
  refine L_iload_n (q := 641) X dL_law_640 rfl rfl ?_
  refine L_iconst (q := 642) X dL_law_641 rfl ?_
  refine L_iadd (q := 643) X dL_law_642 rfl ?_
  refine L_sld (q := 644) (k := i + 1) X dL_law_643 (by omega) (by omega) (by omega) rfl ?_
  refine L_V1i (q := 647) X (c_X8_machinePeak hG (zI_rg _) hWX) mX8_machinePeak kL_104 dL_law_644 (by omega) hWX.2.1 rfl ⟨(Nat.le_of_ble_eq_true rfl), (Nat.le_of_ble_eq_true rfl)⟩ (Nat.le_of_ble_eq_true rfl) rfl (fun v1 c1 h1 => ?_)
  obtain ⟨rfl, hX1, hf1⟩ := h1
  have hM1 := WM_keep hWM hf1
  refine L_aload_n (q := 648) X dL_law_647 rfl rfl ?_
  refine L_aload_n (q := 649) X dL_law_648 rfl rfl ?_
  refine L_iload_n (q := 650) X dL_law_649 rfl rfl ?_
  refine L_iconst (q := 651) X dL_law_650 rfl ?_
  refine L_iadd (q := 652) X dL_law_651 rfl ?_
  refine L_sld (q := 653) (k := i + 1) X dL_law_652 (by omega) (by omega) (by omega) rfl ?_
  obtain ⟨th, tw, pk, h55, -⟩ := hM1.2.1
  refine L_V1i (q := 656) X (c_X9_machinePeak hG (zI_rg _) hM1) mX9_machinePeak kL_107 dL_law_653 (by omega) h55 rfl ⟨(Nat.le_of_ble_eq_true rfl), (Nat.le_of_ble_eq_true rfl)⟩ (Nat.le_of_ble_eq_true rfl) rfl (fun v2 c2 h2 => ?_)
  obtain ⟨rfl, hM2, hf2⟩ := h2
  exact L_same (t := 916) X dL_law_656 rfl (kk _ _ (WX_keep hX1 hf2) hM2)
set_option maxRecDepth 100000 in
set_option maxHeartbeats 4000000 in
theorem law_c23 {l : Launch} {G : Gm} {K : Cx} {b nS i : Nat} {xs : Nat → Int32} {S : SS} {c : HP} (X : LX l G K b nS xs) (hN : G.2.1 = 72) (hnS : nS ≤ 2048) (hi : i + 3 < nS) (hWX : WX G c S) (hWM : WM G c S) (kk : ∀ (S' : SS) (c' : HP), WX G c' S' → WM G c' S' → LW G K 916 (mkL [some (.ref b), some (.ref (G.1 0)), some (.ref (G.1 55)), some (.int (zI ((i : Nat) : Int)))]) [] c') : LW G K 661 (mkL [some (.ref b), some (.ref (G.1 0)), some (.ref (G.1 55)), some (.int (zI ((i : Nat) : Int)))]) [] c := by
  have hG := X.inj
  obtain ⟨tm, x, hs, s0, s1, o, sd⟩ := S
  refine L_aload_n (q := 662) X dL_law_661 rfl rfl ?_
  refine L_aload_n (q := 663) X dL_law_662 rfl rfl ?_
  refine L_iload_n (q := 664) X dL_law_663 rfl rfl ?_
  refine L_iconst (q := 665) X dL_law_664 rfl ?_
  refine L_iadd (q := 666) X dL_law_665 rfl ?_
  refine L_sld (q := 667) (k := i + 1) X dL_law_666 (by omega) (by omega) (by omega) rfl ?_
  refine L_aload_n (q := 668) X dL_law_667 rfl rfl ?_
  refine L_iload_n (q := 669) X dL_law_668 rfl rfl ?_
  refine L_iconst (q := 670) X dL_law_669 rfl ?_
  refine L_iadd (q := 671) X dL_law_670 rfl ?_
  refine L_sld (q := 672) (k := i + 2) X dL_law_671 (by omega) (by omega) (by omega) rfl ?_
  refine L_i2l (q := 673) X dL_law_672 rfl ?_
  refine L_bipush (q := 675) X dL_law_673 (by decide) rfl ?_
  refine L_lshl (q := 676) X dL_law_675 rfl ?_
  refine L_aload_n (q := 677) X dL_law_676 rfl rfl ?_
  refine L_iload_n (q := 678) X dL_law_677 rfl rfl ?_
  refine L_iconst (q := 679) X dL_law_678 rfl ?_
  refine L_iadd (q := 680) X dL_law_679 rfl ?_
  refine L_sld (q := 681) (k := i + 3) X dL_law_680 (by omega) (by omega) (by omega) rfl ?_
  refine L_i2l (q := 682) X dL_law_681 rfl ?_
  refine L_ldc2 (q := 685) X dL_law_682 nL_108 rfl ?_
  refine L_land (q := 686) X dL_law_685 rfl ?_
  refine L_lor (q := 687) X dL_law_686 rfl ?_
  refine L_V2i (q := 690) X (c_X8_runScript hG (zI_rg _) hWX) mX8_runScript kL_110 dL_law_687 (by omega) hWX.2.1 rfl ⟨(Nat.le_of_ble_eq_true rfl), (Nat.le_of_ble_eq_true rfl)⟩ (Nat.le_of_ble_eq_true rfl) rfl (fun v1 c1 h1 => ?_)
  obtain ⟨rfl, hX1, hf1⟩ := h1
  have hM1 := WM_keep hWM hf1
  refine L_aload_n (q := 691) X dL_law_690 rfl rfl ?_
  refine L_aload_n (q := 692) X dL_law_691 rfl rfl ?_
  refine L_iload_n (q := 693) X dL_law_692 rfl rfl ?_
  refine L_iconst (q := 694) X dL_law_693 rfl ?_
  refine L_iadd (q := 695) X dL_law_694 rfl ?_
  refine L_sld (q := 696) (k := i + 1) X dL_law_695 (by omega) (by omega) (by omega) rfl ?_
  refine L_aload_n (q := 697) X dL_law_696 rfl rfl ?_
  refine L_iload_n (q := 698) X dL_law_697 rfl rfl ?_
  refine L_iconst (q := 699) X dL_law_698 rfl ?_
  refine L_iadd (q := 700) X dL_law_699 rfl ?_
  refine L_sld (q := 701) (k := i + 2) X dL_law_700 (by omega) (by omega) (by omega) rfl ?_
  refine L_i2l (q := 702) X dL_law_701 rfl ?_
  refine L_bipush (q := 704) X dL_law_702 (by decide) rfl ?_
  refine L_lshl (q := 705) X dL_law_704 rfl ?_
  refine L_aload_n (q := 706) X dL_law_705 rfl rfl ?_
  refine L_iload_n (q := 707) X dL_law_706 rfl rfl ?_
  refine L_iconst (q := 708) X dL_law_707 rfl ?_
  refine L_iadd (q := 709) X dL_law_708 rfl ?_
  refine L_sld (q := 710) (k := i + 3) X dL_law_709 (by omega) (by omega) (by omega) rfl ?_
  refine L_i2l (q := 711) X dL_law_710 rfl ?_
  refine L_ldc2 (q := 714) X dL_law_711 nL_108 rfl ?_
  refine L_land (q := 715) X dL_law_714 rfl ?_
  refine L_lor (q := 716) X dL_law_715 rfl ?_
  obtain ⟨th, tw, pk, h55, -⟩ := hM1.2.1
  refine L_V2i (q := 719) X (c_X9_runScript hG (zI_rg _) hM1) mX9_runScript kL_114 dL_law_716 (by omega) h55 rfl ⟨(Nat.le_of_ble_eq_true rfl), (Nat.le_of_ble_eq_true rfl)⟩ (Nat.le_of_ble_eq_true rfl) rfl (fun v2 c2 h2 => ?_)
  obtain ⟨rfl, hM2, hf2⟩ := h2
  exact L_same (t := 916) X dL_law_719 rfl (kk _ _ (WX_keep hX1 hf2) hM2)
set_option maxRecDepth 100000 in
set_option maxHeartbeats 4000000 in
theorem law_c24 {l : Launch} {G : Gm} {K : Cx} {b nS i : Nat} {xs : Nat → Int32} {S : SS} {c : HP} (X : LX l G K b nS xs) (hN : G.2.1 = 72) (hnS : nS ≤ 2048) (hi : i + 3 < nS) (hWX : WX G c S) (hWM : WM G c S) (kk : ∀ (S' : SS) (c' : HP), WX G c' S' → WM G c' S' → LW G K 916 (mkL [some (.ref b), some (.ref (G.1 0)), some (.ref (G.1 55)), some (.int (zI ((i : Nat) : Int)))]) [] c') : LW G K 724 (mkL [some (.ref b), some (.ref (G.1 0)), some (.ref (G.1 55)), some (.int (zI ((i : Nat) : Int)))]) [] c := by
  have hG := X.inj
  obtain ⟨tm, x, hs, s0, s1, o, sd⟩ := S
  refine L_aload_n (q := 725) X dL_law_724 rfl rfl ?_
  refine L_aload_n (q := 726) X dL_law_725 rfl rfl ?_
  refine L_iload_n (q := 727) X dL_law_726 rfl rfl ?_
  refine L_iconst (q := 728) X dL_law_727 rfl ?_
  refine L_iadd (q := 729) X dL_law_728 rfl ?_
  refine L_sld (q := 730) (k := i + 1) X dL_law_729 (by omega) (by omega) (by omega) rfl ?_
  refine L_aload_n (q := 731) X dL_law_730 rfl rfl ?_
  refine L_iload_n (q := 732) X dL_law_731 rfl rfl ?_
  refine L_iconst (q := 733) X dL_law_732 rfl ?_
  refine L_iadd (q := 734) X dL_law_733 rfl ?_
  refine L_sld (q := 735) (k := i + 2) X dL_law_734 (by omega) (by omega) (by omega) rfl ?_
  refine L_V2i (q := 738) X (c_X8_observe hG (zI_rg _) (zI_rg _) hWX) mX8_observe kL_115 dL_law_735 (by omega) hWX.2.1 rfl ⟨(Nat.le_of_ble_eq_true rfl), (Nat.le_of_ble_eq_true rfl)⟩ (Nat.le_of_ble_eq_true rfl) rfl (fun v1 c1 h1 => ?_)
  obtain ⟨rfl, hX1, hf1⟩ := h1
  have hM1 := WM_keep hWM hf1
  refine L_aload_n (q := 739) X dL_law_738 rfl rfl ?_
  refine L_aload_n (q := 740) X dL_law_739 rfl rfl ?_
  refine L_iload_n (q := 741) X dL_law_740 rfl rfl ?_
  refine L_iconst (q := 742) X dL_law_741 rfl ?_
  refine L_iadd (q := 743) X dL_law_742 rfl ?_
  refine L_sld (q := 744) (k := i + 1) X dL_law_743 (by omega) (by omega) (by omega) rfl ?_
  refine L_aload_n (q := 745) X dL_law_744 rfl rfl ?_
  refine L_iload_n (q := 746) X dL_law_745 rfl rfl ?_
  refine L_iconst (q := 747) X dL_law_746 rfl ?_
  refine L_iadd (q := 748) X dL_law_747 rfl ?_
  refine L_sld (q := 749) (k := i + 2) X dL_law_748 (by omega) (by omega) (by omega) rfl ?_
  obtain ⟨th, tw, pk, h55, -⟩ := hM1.2.1
  refine L_V2i (q := 752) X (c_X9_observe hG (zI_rg _) (zI_rg _) hM1) mX9_observe kL_118 dL_law_749 (by omega) h55 rfl ⟨(Nat.le_of_ble_eq_true rfl), (Nat.le_of_ble_eq_true rfl)⟩ (Nat.le_of_ble_eq_true rfl) rfl (fun v2 c2 h2 => ?_)
  obtain ⟨rfl, hM2, hf2⟩ := h2
  exact L_same (t := 916) X dL_law_752 rfl (kk _ _ (WX_keep hX1 hf2) hM2)
set_option maxRecDepth 100000 in
set_option maxHeartbeats 4000000 in
theorem law_c25 {l : Launch} {G : Gm} {K : Cx} {b nS i : Nat} {xs : Nat → Int32} {S : SS} {c : HP} (X : LX l G K b nS xs) (hN : G.2.1 = 72) (hnS : nS ≤ 2048) (hi : i + 3 < nS) (hWX : WX G c S) (hWM : WM G c S) (kk : ∀ (S' : SS) (c' : HP), WX G c' S' → WM G c' S' → LW G K 916 (mkL [some (.ref b), some (.ref (G.1 0)), some (.ref (G.1 55)), some (.int (zI ((i : Nat) : Int)))]) [] c') : LW G K 757 (mkL [some (.ref b), some (.ref (G.1 0)), some (.ref (G.1 55)), some (.int (zI ((i : Nat) : Int)))]) [] c := by
  have hG := X.inj
  obtain ⟨tm, x, hs, s0, s1, o, sd⟩ := S
  refine L_aload_n (q := 758) X dL_law_757 rfl rfl ?_
  refine L_aload_n (q := 759) X dL_law_758 rfl rfl ?_
  refine L_iload_n (q := 760) X dL_law_759 rfl rfl ?_
  refine L_iconst (q := 761) X dL_law_760 rfl ?_
  refine L_iadd (q := 762) X dL_law_761 rfl ?_
  refine L_sld (q := 763) (k := i + 1) X dL_law_762 (by omega) (by omega) (by omega) rfl ?_
  refine L_V1i (q := 766) X (c_X8_forgetAfter hG (zI_rg _) hWX) mX8_forgetAfter kL_119 dL_law_763 (by omega) hWX.2.1 rfl ⟨(Nat.le_of_ble_eq_true rfl), (Nat.le_of_ble_eq_true rfl)⟩ (Nat.le_of_ble_eq_true rfl) rfl (fun v1 c1 h1 => ?_)
  obtain ⟨rfl, hX1, hf1⟩ := h1
  have hM1 := WM_keep hWM hf1
  refine L_aload_n (q := 767) X dL_law_766 rfl rfl ?_
  refine L_aload_n (q := 768) X dL_law_767 rfl rfl ?_
  refine L_iload_n (q := 769) X dL_law_768 rfl rfl ?_
  refine L_iconst (q := 770) X dL_law_769 rfl ?_
  refine L_iadd (q := 771) X dL_law_770 rfl ?_
  refine L_sld (q := 772) (k := i + 1) X dL_law_771 (by omega) (by omega) (by omega) rfl ?_
  obtain ⟨th, tw, pk, h55, -⟩ := hM1.2.1
  refine L_V1i (q := 775) X (c_X9_forgetAfter hG (zI_rg _) hM1) mX9_forgetAfter kL_122 dL_law_772 (by omega) h55 rfl ⟨(Nat.le_of_ble_eq_true rfl), (Nat.le_of_ble_eq_true rfl)⟩ (Nat.le_of_ble_eq_true rfl) rfl (fun v2 c2 h2 => ?_)
  obtain ⟨rfl, hM2, hf2⟩ := h2
  exact L_same (t := 916) X dL_law_775 rfl (kk _ _ (WX_keep hX1 hf2) hM2)
set_option maxRecDepth 100000 in
set_option maxHeartbeats 4000000 in
theorem law_c26 {l : Launch} {G : Gm} {K : Cx} {b nS i : Nat} {xs : Nat → Int32} {S : SS} {c : HP} (X : LX l G K b nS xs) (hN : G.2.1 = 72) (hnS : nS ≤ 2048) (hi : i + 3 < nS) (hWX : WX G c S) (hWM : WM G c S) (kk : ∀ (S' : SS) (c' : HP), WX G c' S' → WM G c' S' → LW G K 916 (mkL [some (.ref b), some (.ref (G.1 0)), some (.ref (G.1 55)), some (.int (zI ((i : Nat) : Int)))]) [] c') : LW G K 780 (mkL [some (.ref b), some (.ref (G.1 0)), some (.ref (G.1 55)), some (.int (zI ((i : Nat) : Int)))]) [] c := by
  have hG := X.inj
  obtain ⟨tm, x, hs, s0, s1, o, sd⟩ := S
  refine L_aload_n (q := 781) X dL_law_780 rfl rfl ?_
  refine L_V0i (q := 784) X (c_X8_possibleStrategies hG hWX) mX8_possibleStrategies kL_123 dL_law_781 (by omega) hWX.2.1 rfl ⟨(Nat.le_of_ble_eq_true rfl), (Nat.le_of_ble_eq_true rfl)⟩ (Nat.le_of_ble_eq_true rfl) rfl (fun v1 c1 h1 => ?_)
  obtain ⟨rfl, hX1, hf1⟩ := h1
  have hM1 := WM_keep hWM hf1
  refine L_aload_n (q := 785) X dL_law_784 rfl rfl ?_
  obtain ⟨th, tw, pk, h55, -⟩ := hM1.2.1
  refine L_V0i (q := 788) X (c_X9_possibleStrategies hG hM1) mX9_possibleStrategies kL_126 dL_law_785 (by omega) h55 rfl ⟨(Nat.le_of_ble_eq_true rfl), (Nat.le_of_ble_eq_true rfl)⟩ (Nat.le_of_ble_eq_true rfl) rfl (fun v2 c2 h2 => ?_)
  obtain ⟨rfl, hM2, hf2⟩ := h2
  exact L_same (t := 916) X dL_law_788 rfl (kk _ _ (WX_keep hX1 hf2) hM2)
set_option maxRecDepth 100000 in
set_option maxHeartbeats 4000000 in
theorem law_c27 {l : Launch} {G : Gm} {K : Cx} {b nS i : Nat} {xs : Nat → Int32} {S : SS} {c : HP} (X : LX l G K b nS xs) (hN : G.2.1 = 72) (hnS : nS ≤ 2048) (hi : i + 3 < nS) (hWX : WX G c S) (hWM : WM G c S) (kk : ∀ (S' : SS) (c' : HP), WX G c' S' → WM G c' S' → LW G K 916 (mkL [some (.ref b), some (.ref (G.1 0)), some (.ref (G.1 55)), some (.int (zI ((i : Nat) : Int)))]) [] c') : LW G K 793 (mkL [some (.ref b), some (.ref (G.1 0)), some (.ref (G.1 55)), some (.int (zI ((i : Nat) : Int)))]) [] c := by
  have hG := X.inj
  obtain ⟨tm, x, hs, s0, s1, o, sd⟩ := S
  refine L_aload_n (q := 794) X dL_law_793 rfl rfl ?_
  refine L_aload_n (q := 795) X dL_law_794 rfl rfl ?_
  refine L_iload_n (q := 796) X dL_law_795 rfl rfl ?_
  refine L_iconst (q := 797) X dL_law_796 rfl ?_
  refine L_iadd (q := 798) X dL_law_797 rfl ?_
  refine L_sld (q := 799) (k := i + 1) X dL_law_798 (by omega) (by omega) (by omega) rfl ?_
  refine L_i2l (q := 800) X dL_law_799 rfl ?_
  refine L_bipush (q := 802) X dL_law_800 (by decide) rfl ?_
  refine L_lshl (q := 803) X dL_law_802 rfl ?_
  refine L_aload_n (q := 804) X dL_law_803 rfl rfl ?_
  refine L_iload_n (q := 805) X dL_law_804 rfl rfl ?_
  refine L_iconst (q := 806) X dL_law_805 rfl ?_
  refine L_iadd (q := 807) X dL_law_806 rfl ?_
  refine L_sld (q := 808) (k := i + 2) X dL_law_807 (by omega) (by omega) (by omega) rfl ?_
  refine L_i2l (q := 809) X dL_law_808 rfl ?_
  refine L_ldc2 (q := 812) X dL_law_809 nL_108 rfl ?_
  refine L_land (q := 813) X dL_law_812 rfl ?_
  refine L_lor (q := 814) X dL_law_813 rfl ?_
  refine L_V1l (q := 817) X (c_X8_setSeed hG hWX) mX8_setSeed kL_127 dL_law_814 (by omega) hWX.2.1 rfl ⟨(Nat.le_of_ble_eq_true rfl), (Nat.le_of_ble_eq_true rfl)⟩ (Nat.le_of_ble_eq_true rfl) rfl (fun v1 c1 h1 => ?_)
  obtain ⟨rfl, hX1, hf1⟩ := h1
  have hM1 := WM_keep hWM hf1
  refine L_aload_n (q := 818) X dL_law_817 rfl rfl ?_
  refine L_aload_n (q := 819) X dL_law_818 rfl rfl ?_
  refine L_iload_n (q := 820) X dL_law_819 rfl rfl ?_
  refine L_iconst (q := 821) X dL_law_820 rfl ?_
  refine L_iadd (q := 822) X dL_law_821 rfl ?_
  refine L_sld (q := 823) (k := i + 1) X dL_law_822 (by omega) (by omega) (by omega) rfl ?_
  refine L_i2l (q := 824) X dL_law_823 rfl ?_
  refine L_bipush (q := 826) X dL_law_824 (by decide) rfl ?_
  refine L_lshl (q := 827) X dL_law_826 rfl ?_
  refine L_aload_n (q := 828) X dL_law_827 rfl rfl ?_
  refine L_iload_n (q := 829) X dL_law_828 rfl rfl ?_
  refine L_iconst (q := 830) X dL_law_829 rfl ?_
  refine L_iadd (q := 831) X dL_law_830 rfl ?_
  refine L_sld (q := 832) (k := i + 2) X dL_law_831 (by omega) (by omega) (by omega) rfl ?_
  refine L_i2l (q := 833) X dL_law_832 rfl ?_
  refine L_ldc2 (q := 836) X dL_law_833 nL_108 rfl ?_
  refine L_land (q := 837) X dL_law_836 rfl ?_
  refine L_lor (q := 838) X dL_law_837 rfl ?_
  obtain ⟨th, tw, pk, h55, -⟩ := hM1.2.1
  refine L_V1l (q := 841) X (c_X9_setSeed hG hM1) mX9_setSeed kL_131 dL_law_838 (by omega) h55 rfl ⟨(Nat.le_of_ble_eq_true rfl), (Nat.le_of_ble_eq_true rfl)⟩ (Nat.le_of_ble_eq_true rfl) rfl (fun v2 c2 h2 => ?_)
  obtain ⟨rfl, hM2, hf2⟩ := h2
  refine L_lcmp (q := 842) X dL_law_841 rfl ?_
  rw [lg_zI, (lcZ_eq v2 v2).mpr rfl]
  exact L_if_eq (q := 845) (t := 916) X dL_law_842 (by decide) rfl rfl (fun _ => kk _ _ (WX_keep hX1 hf2) hM2) (fun h => absurd rfl h)
set_option maxRecDepth 100000 in
set_option maxHeartbeats 4000000 in
theorem law_c28 {l : Launch} {G : Gm} {K : Cx} {b nS i : Nat} {xs : Nat → Int32} {S : SS} {c : HP} (X : LX l G K b nS xs) (hN : G.2.1 = 72) (hnS : nS ≤ 2048) (hi : i + 3 < nS) (hWX : WX G c S) (hWM : WM G c S) (kk : ∀ (S' : SS) (c' : HP), WX G c' S' → WM G c' S' → LW G K 916 (mkL [some (.ref b), some (.ref (G.1 0)), some (.ref (G.1 55)), some (.int (zI ((i : Nat) : Int)))]) [] c') : LW G K 847 (mkL [some (.ref b), some (.ref (G.1 0)), some (.ref (G.1 55)), some (.int (zI ((i : Nat) : Int)))]) [] c := by
  have hG := X.inj
  obtain ⟨tm, x, hs, s0, s1, o, sd⟩ := S
  refine L_aload_n (q := 848) X dL_law_847 rfl rfl ?_
  refine L_aload_n (q := 849) X dL_law_848 rfl rfl ?_
  refine L_iload_n (q := 850) X dL_law_849 rfl rfl ?_
  refine L_iconst (q := 851) X dL_law_850 rfl ?_
  refine L_iadd (q := 852) X dL_law_851 rfl ?_
  refine L_sld (q := 853) (k := i + 1) X dL_law_852 (by omega) (by omega) (by omega) rfl ?_
  refine L_V1i (q := 856) X (c_X8_randomReduction hG (zI_rg _) hWX) mX8_randomReduction kL_132 dL_law_853 (by omega) hWX.2.1 rfl ⟨(Nat.le_of_ble_eq_true rfl), (Nat.le_of_ble_eq_true rfl)⟩ (Nat.le_of_ble_eq_true rfl) rfl (fun v1 c1 h1 => ?_)
  obtain ⟨rfl, hX1, hf1⟩ := h1
  have hM1 := WM_keep hWM hf1
  refine L_aload_n (q := 857) X dL_law_856 rfl rfl ?_
  refine L_aload_n (q := 858) X dL_law_857 rfl rfl ?_
  refine L_iload_n (q := 859) X dL_law_858 rfl rfl ?_
  refine L_iconst (q := 860) X dL_law_859 rfl ?_
  refine L_iadd (q := 861) X dL_law_860 rfl ?_
  refine L_sld (q := 862) (k := i + 1) X dL_law_861 (by omega) (by omega) (by omega) rfl ?_
  obtain ⟨th, tw, pk, h55, -⟩ := hM1.2.1
  refine L_V1i (q := 865) X (c_X9_randomReduction hG (zI_rg _) hM1) mX9_randomReduction kL_135 dL_law_862 (by omega) h55 rfl ⟨(Nat.le_of_ble_eq_true rfl), (Nat.le_of_ble_eq_true rfl)⟩ (Nat.le_of_ble_eq_true rfl) rfl (fun v2 c2 h2 => ?_)
  obtain ⟨rfl, hM2, hf2⟩ := h2
  exact L_same (t := 916) X dL_law_865 rfl (kk _ _ (WX_keep hX1 hf2) hM2)
set_option maxRecDepth 100000 in
set_option maxHeartbeats 4000000 in
theorem law_c29 {l : Launch} {G : Gm} {K : Cx} {b nS i : Nat} {xs : Nat → Int32} {S : SS} {c : HP} (X : LX l G K b nS xs) (hN : G.2.1 = 72) (hnS : nS ≤ 2048) (hi : i + 3 < nS) (hWX : WX G c S) (hWM : WM G c S) (kk : ∀ (S' : SS) (c' : HP), WX G c' S' → WM G c' S' → LW G K 916 (mkL [some (.ref b), some (.ref (G.1 0)), some (.ref (G.1 55)), some (.int (zI ((i : Nat) : Int)))]) [] c') : LW G K 870 (mkL [some (.ref b), some (.ref (G.1 0)), some (.ref (G.1 55)), some (.int (zI ((i : Nat) : Int)))]) [] c := by
  have hG := X.inj
  obtain ⟨tm, x, hs, s0, s1, o, sd⟩ := S
  refine L_aload_n (q := 871) X dL_law_870 rfl rfl ?_
  refine L_aload_n (q := 872) X dL_law_871 rfl rfl ?_
  refine L_iload_n (q := 873) X dL_law_872 rfl rfl ?_
  refine L_iconst (q := 874) X dL_law_873 rfl ?_
  refine L_iadd (q := 875) X dL_law_874 rfl ?_
  refine L_sld (q := 876) (k := i + 1) X dL_law_875 (by omega) (by omega) (by omega) rfl ?_
  refine L_V1i (q := 879) X (c_X8_save hG (zI_rg _) hWX) mX8_save kL_136 dL_law_876 (by omega) hWX.2.1 rfl ⟨(Nat.le_of_ble_eq_true rfl), (Nat.le_of_ble_eq_true rfl)⟩ (Nat.le_of_ble_eq_true rfl) rfl (fun v1 c1 h1 => ?_)
  obtain ⟨rfl, hX1, hf1⟩ := h1
  have hM1 := WM_keep hWM hf1
  refine L_aload_n (q := 880) X dL_law_879 rfl rfl ?_
  refine L_aload_n (q := 881) X dL_law_880 rfl rfl ?_
  refine L_iload_n (q := 882) X dL_law_881 rfl rfl ?_
  refine L_iconst (q := 883) X dL_law_882 rfl ?_
  refine L_iadd (q := 884) X dL_law_883 rfl ?_
  refine L_sld (q := 885) (k := i + 1) X dL_law_884 (by omega) (by omega) (by omega) rfl ?_
  obtain ⟨th, tw, pk, h55, -⟩ := hM1.2.1
  refine L_V1i (q := 888) X (c_X9_save hG (zI_rg _) hM1) mX9_save kL_139 dL_law_885 (by omega) h55 rfl ⟨(Nat.le_of_ble_eq_true rfl), (Nat.le_of_ble_eq_true rfl)⟩ (Nat.le_of_ble_eq_true rfl) rfl (fun v2 c2 h2 => ?_)
  obtain ⟨rfl, hM2, hf2⟩ := h2
  exact L_same (t := 916) X dL_law_888 rfl (kk _ _ (WX_keep hX1 hf2) hM2)
set_option maxRecDepth 100000 in
set_option maxHeartbeats 4000000 in
theorem law_c30 {l : Launch} {G : Gm} {K : Cx} {b nS i : Nat} {xs : Nat → Int32} {S : SS} {c : HP} (X : LX l G K b nS xs) (hN : G.2.1 = 72) (hnS : nS ≤ 2048) (hi : i + 3 < nS) (hWX : WX G c S) (hWM : WM G c S) (kk : ∀ (S' : SS) (c' : HP), WX G c' S' → WM G c' S' → LW G K 916 (mkL [some (.ref b), some (.ref (G.1 0)), some (.ref (G.1 55)), some (.int (zI ((i : Nat) : Int)))]) [] c') : LW G K 893 (mkL [some (.ref b), some (.ref (G.1 0)), some (.ref (G.1 55)), some (.int (zI ((i : Nat) : Int)))]) [] c := by
  have hG := X.inj
  obtain ⟨tm, x, hs, s0, s1, o, sd⟩ := S
  refine L_aload_n (q := 894) X dL_law_893 rfl rfl ?_
  refine L_aload_n (q := 895) X dL_law_894 rfl rfl ?_
  refine L_iload_n (q := 896) X dL_law_895 rfl rfl ?_
  refine L_iconst (q := 897) X dL_law_896 rfl ?_
  refine L_iadd (q := 898) X dL_law_897 rfl ?_
  refine L_sld (q := 899) (k := i + 1) X dL_law_898 (by omega) (by omega) (by omega) rfl ?_
  refine L_V1i (q := 902) X (c_X8_restore hG (zI_rg _) hWX) mX8_restore kL_140 dL_law_899 (by omega) hWX.2.1 rfl ⟨(Nat.le_of_ble_eq_true rfl), (Nat.le_of_ble_eq_true rfl)⟩ (Nat.le_of_ble_eq_true rfl) rfl (fun v1 c1 h1 => ?_)
  obtain ⟨rfl, hX1, hf1⟩ := h1
  have hM1 := WM_keep hWM hf1
  refine L_aload_n (q := 903) X dL_law_902 rfl rfl ?_
  refine L_aload_n (q := 904) X dL_law_903 rfl rfl ?_
  refine L_iload_n (q := 905) X dL_law_904 rfl rfl ?_
  refine L_iconst (q := 906) X dL_law_905 rfl ?_
  refine L_iadd (q := 907) X dL_law_906 rfl ?_
  refine L_sld (q := 908) (k := i + 1) X dL_law_907 (by omega) (by omega) (by omega) rfl ?_
  obtain ⟨th, tw, pk, h55, -⟩ := hM1.2.1
  refine L_V1i (q := 911) X (c_X9_restore hG (zI_rg _) hM1) mX9_restore kL_143 dL_law_908 (by omega) h55 rfl ⟨(Nat.le_of_ble_eq_true rfl), (Nat.le_of_ble_eq_true rfl)⟩ (Nat.le_of_ble_eq_true rfl) rfl (fun v2 c2 h2 => ?_)
  obtain ⟨rfl, hM2, hf2⟩ := h2
  exact L_same (t := 916) X dL_law_911 rfl (kk _ _ (WX_keep hX1 hf2) hM2)
