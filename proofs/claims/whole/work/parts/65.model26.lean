/-! THE MODEL's machine: a rule applied -/
theorem rw_of_r {wl : List Int} {p : Nat} {r : Int} {z : List Int} (h : z = pcR wl p r) : (([] : List Int) ++ sl wl 0 p ++ z) ++ sl wl (bh wl p 1) wl.length = rwX wl p r := by
  unfold rwX
  rw [h, sl_0, sl_end, List.nil_append, List.append_assoc]
theorem bh_en0 {wl : List Int} {p : Nat} (hp : p + 1 < wl.length) : (bh wl (p + 1) 1) = bh wl (p + 2) (prt (wl.getD (p + 1) 0)) := by
  have q := bh_s (l := wl) (s := p + 1) hp 0
  rw [Nat.zero_add, Nat.zero_add] at q
  exact q
set_option maxRecDepth 100000 in
set_option maxHeartbeats 4000000 in
theorem tl_X9_apply {l : Launch} {G : Gm} {K : Cx} {c0 c : HP} {x wl : List Int} {b : Nat} {th ts rmb obn pk : Int} {sd : Int64} (X : Fx l G K cX9_apply 12 RX9 (none) (rmR 3 76)) (hG : injG G) (hN : G.2.1 = 72) (hA : AX G c th ts rmb obn sd pk x) (hWw : Ww G c wl) (hb : b ≤ wl.length) (hf0 : ∀ k, k ≠ 55 → k ≠ 70 → c k = c0 k) : AW G K (Qv (fun c' => AX G c' th ts rmb obn sd pk (x ++ sl wl b wl.length) ∧ (∀ k, k ≠ 55 → k ≠ 70 → c' k = c0 k))) 369 (mkL [some (.ref (G.1 55)), none, none, some (.int (zI ((b : Nat) : Int))), none, none, none, none, none, none, none, none]) [] c := by
  obtain ⟨hwl, F, h69, hWS, hWF⟩ := (id hWw : Ww G c wl)
  refine A_aload_n (q := 370) X dX9_apply_369 rfl rfl ?_
  refine A_iload_n (q := 371) X dX9_apply_370 rfl rfl ?_
  refine A_aload_n (q := 372) X dX9_apply_371 rfl rfl ?_
  refine A_getf (q := 375) X fX9_50 dX9_apply_372 (by omega) hA.choose_spec.1 rfl rfl ?_
  refine A_sipush (q := 378) X dX9_apply_375 (by decide) rfl ?_
  refine A_iald (q := 379) (h := 69) 320 X dX9_apply_378 (by omega) h69 (by omega) (by omega) (by decide) rfl ?_
  rw [hWS]
  refine A_V2v (q := 382) X (c_X9_addPart (wl := wl) (i := (b)) (j := (wl.length)) hG hN hA hWw (by omega) (by omega)) mX9_addPart kX9_169 dX9_apply_379 (by omega) (hA).choose_spec.1 rfl (by decide) (Nat.le_of_ble_eq_true rfl) rfl (fun cq_2 hq_1 => ?_)
  obtain ⟨hA_3, hf_4⟩ := hq_1
  exact A_return X dX9_apply_382 ⟨hA_3, (fun k n0 n1 => ((hf_4 k (by omega) (by omega)).trans (hf0 k n0 n1)))⟩
set_option maxRecDepth 100000 in
set_option maxHeartbeats 4000000 in
theorem lpA_X9_apply {l : Launch} {G : Gm} {K : Cx} {c0 : HP} {wl : List Int} {p : Nat} {th ts rmb obn pk : Int} {sd : Int64} (X : Fx l G K cX9_apply 12 RX9 (none) (rmR 3 76)) (hG : injG G) (hN : G.2.1 = 72) (hXG : XG wl) (hp : p + 1 < wl.length) (h0 : 1000000 ≤ wl.getD p 0) (eF : bh wl (p + 2) 1 = (bh wl (p + 1) 1)) (hWw0 : Ww G c0 wl) : ∀ (n : Nat) (i : Nat) (c : HP), 1000 - i < n → i ≤ (kn (wl.getD p 0)) → AX G c th ts rmb obn sd pk ((([] ++ sl wl 0 p) ++ (1001 :: clo ((kn (wl.getD p 0)) + 1) ((kh (wl.getD p 0)) + 1) :: (sl wl (p + 2) (bh wl (p + 1) 1) ++ [0]))) ++ abE wl (bh wl (p + 1) 1) i) → (∀ k, k ≠ 55 → k ≠ 70 → c k = c0 k) → AW G K (Qv (fun c' => AX G c' th ts rmb obn sd pk (rwX wl p 2) ∧ (∀ k, k ≠ 55 → k ≠ 70 → c' k = c0 k))) 235 (mkL [some (.ref (G.1 55)), none, none, some (.int (zI (((bh wl p 1) : Nat) : Int))), none, none, none, none, none, some (.int (zI (((bh wl (bh wl (p + 1) 1) i) : Nat) : Int))), none, none]) [] c := by
  intro n
  induction n with
  | zero => intro i c hmz; exact absurd hmz (Nat.not_lt_zero _)
  | succ n ih =>
    intro i c hmz hi hA hf0
    have s1 := ent_str hXG hp h0
    have nm0 := hXG.xb.num (k := p) (by omega) h0
    have eE : bh wl (bh wl (p + 1) 1) (kn (wl.getD p 0)) = (bh wl p 1) := s1.2.1.symm
    have hEB : (bh wl (p + 1) 1) ≤ (bh wl p 1) := by rw [← eE]; exact bh_ge _ _ _
    have hBl := s1.2.2.1
    have hWw := hWw0.keep (hf0 69 (by decide) (by decide))
    obtain ⟨hwl, F, h69, hWS, hWF⟩ := (id hWw : Ww G c wl)
    have bli := bh_le (l := wl) (s := (bh wl (p + 1) 1)) i (by omega)
    refine A_iload (q := 237) X dX9_apply_235 rfl rfl ?_
    refine A_iload_n (q := 238) X dX9_apply_237 rfl rfl ?_
    refine A_icmp_ge (q := 241) (t := 276) X dX9_apply_238 (by omega) (by omega) rfl rfl (fun hb238 => ?_) (fun hb238 => ?_)
    · refine A_goto (q := 369) X dX9_apply_276 rfl ?_
      have ei : i = (kn (wl.getD p 0)) := by have g := s1.1 i hi; rw [eE] at g; omega
      refine AW.loc (sS rfl (sN (sN (sS rfl (sN (sN (sN (sN (sN (sN (sN (sN sE)))))))))))) (AW.mono (tl_X9_apply (b := (bh wl p 1)) X hG hN hA hWw hBl hf0) ?_)
      rintro r9 c9 ⟨hr9, hA9, hf9⟩
      refine ⟨hr9, AX_eq hA9 ?_, hf9⟩
      rw [List.append_assoc (([] : List Int) ++ sl wl 0 p), ei]
      refine rw_of_r ?_
      unfold pcR; rw [if_neg (by decide), if_neg (by decide), if_pos rfl]; unfold pcL; rw [eF]; simp only [List.append_assoc, List.cons_append, List.nil_append]
    · have hil : i < (kn (wl.getD p 0)) := by rcases Nat.lt_or_ge i (kn (wl.getD p 0)) with z | z; exact z; (exfalso; have z2 : i = (kn (wl.getD p 0)) := by omega); (rw [z2, eE] at hb238; omega)
      have bl2 := bh_le (l := wl) (s := (bh wl (p + 1) 1)) (i + 1) (by omega)
      have bm := bh_mono wl (bh wl (p + 1) 1) i 1
      refine A_aload_n (q := 242) X dX9_apply_241 rfl rfl ?_
      refine A_ldc (q := 244) (n := 1000001) X dX9_apply_242 nX9_174 (by decide) rfl ?_
      refine A_V1v (q := 247) X (c_X9_add (t := 1000001) hG hN hA) mX9_add kX9_165 dX9_apply_244 (by omega) hA.choose_spec.1 rfl (by decide) (Nat.le_of_ble_eq_true rfl) rfl (fun cq_2 hq_1 => ?_)
      obtain ⟨hA_3, hf_4⟩ := hq_1
      refine A_aload_n (q := 248) X dX9_apply_247 rfl rfl ?_
      refine A_iload (q := 250) X dX9_apply_248 rfl rfl ?_
      refine A_aload_n (q := 251) X dX9_apply_250 rfl rfl ?_
      refine A_getf (q := 254) X fX9_50 dX9_apply_251 (by omega) hA_3.choose_spec.1 rfl rfl ?_
      refine A_iload (q := 256) X dX9_apply_254 rfl rfl ?_
      refine A_S2i (q := 259) X (c_endW (p := ((bh wl (bh wl (p + 1) 1) i))) hG hN (hWw.keep (((hf_4 69 (by omega) (by omega)).trans rfl))) hXG (by omega)) mX9_end kX9_76 dX9_apply_256 (by decide) (Nat.le_of_ble_eq_true rfl) rfl (fun vq_7 cq_6 hq_5 => ?_)
      obtain ⟨rfl, hq_5⟩ := hq_5
      obtain rfl := hq_5.symm
      rw [show bh wl (bh wl (bh wl (p + 1) 1) i) 1 = bh wl (bh wl (p + 1) 1) (i + 1) from (bh_add wl (bh wl (p + 1) 1) i 1).symm]
      refine A_V2v (q := 262) X (c_X9_addPart (wl := wl) (i := ((bh wl (bh wl (p + 1) 1) i))) (j := ((bh wl (bh wl (p + 1) 1) (i + 1)))) hG hN hA_3 (hWw.keep (((hf_4 69 (by omega) (by omega)).trans rfl))) (by omega) (by omega)) mX9_addPart kX9_169 dX9_apply_259 (by omega) (hA_3).choose_spec.1 rfl (by decide) (Nat.le_of_ble_eq_true rfl) rfl (fun cq_9 hq_8 => ?_)
      obtain ⟨hA_10, hf_11⟩ := hq_8
      refine A_aload_n (q := 263) X dX9_apply_262 rfl rfl ?_
      refine A_getf (q := 266) X fX9_50 dX9_apply_263 (by omega) hA_10.choose_spec.1 rfl rfl ?_
      refine A_iload (q := 268) X dX9_apply_266 rfl rfl ?_
      refine A_S2i (q := 271) X (c_endW (p := ((bh wl (bh wl (p + 1) 1) i))) hG hN (hWw.keep (((hf_11 69 (by omega) (by omega)).trans ((hf_4 69 (by omega) (by omega)).trans rfl)))) hXG (by omega)) mX9_end kX9_76 dX9_apply_268 (by decide) (Nat.le_of_ble_eq_true rfl) rfl (fun vq_14 cq_13 hq_12 => ?_)
      obtain ⟨rfl, hq_12⟩ := hq_12
      obtain rfl := hq_12.symm
      rw [show bh wl (bh wl (bh wl (p + 1) 1) i) 1 = bh wl (bh wl (p + 1) 1) (i + 1) from (bh_add wl (bh wl (p + 1) 1) i 1).symm]
      refine A_istore (q := 273) X dX9_apply_271 (by decide) (okP_n rfl) rfl ?_
      refine A_goto (q := 235) X dX9_apply_273 rfl ?_
      exact AW.loc (sS rfl (sN (sN (sS rfl (sN (sN (sN (sN (sN (sS rfl (sN (sN sE)))))))))))) (ih (i + 1) _ (by omega) (by omega) (AX_eq hA_10 (by show _ = (([] ++ sl wl 0 p) ++ (1001 :: clo ((kn (wl.getD p 0)) + 1) ((kh (wl.getD p 0)) + 1) :: (sl wl (p + 2) (bh wl (p + 1) 1) ++ [0]))) ++ (abE wl (bh wl (p + 1) 1) i ++ (clo 0 1 :: sl wl (bh wl (bh wl (p + 1) 1) i) (bh wl (bh wl (p + 1) 1) (i + 1)))); rw [show (1000001 : Int) = clo 0 1 from rfl]; simp only [List.append_assoc, List.cons_append, List.nil_append])) (fun k n0 n1 => ((hf_11 k (by omega) (by omega)).trans ((hf_4 k (by omega) (by omega)).trans (hf0 k n0 n1)))))
set_option maxRecDepth 100000 in
set_option maxHeartbeats 4000000 in
theorem lpK_X9_apply {l : Launch} {G : Gm} {K : Cx} {c0 : HP} {wl : List Int} {p ix : Nat} {th ts rmb obn pk : Int} {sd : Int64} (X : Fx l G K cX9_apply 12 RX9 (none) (rmR 3 76)) (hG : injG G) (hN : G.2.1 = 72) (hXG : XG wl) (hp : p + 1 < wl.length) (h0 : 1000000 ≤ wl.getD p 0) (eF : (bh wl (p + 1) 1) = p + 2) (hix : wl.getD (p + 1) 0 = ((ix : Nat) : Int)) (hixk : ix < (kn (wl.getD p 0))) (hWw : Ww G c0 wl) (hA : AX G c0 th ts rmb obn sd pk ([] ++ sl wl 0 p)) : ∀ (n : Nat) (i : Nat), 1000 - i < n → i ≤ ix → AW G K (Qv (fun c' => AX G c' th ts rmb obn sd pk (rwX wl p 3) ∧ (∀ k, k ≠ 55 → k ≠ 70 → c' k = c0 k))) 302 (mkL [some (.ref (G.1 55)), none, none, some (.int (zI (((bh wl p 1) : Nat) : Int))), none, none, none, none, none, some (.int (zI ((ix : Nat) : Int))), some (.int (zI (((bh wl (bh wl (p + 1) 1) i) : Nat) : Int))), some (.int (zI ((i : Nat) : Int)))]) [] c0 := by
  intro n
  induction n with
  | zero => intro i hmz; exact absurd hmz (Nat.not_lt_zero _)
  | succ n ih =>
    intro i hmz hi
    have s1 := ent_str hXG hp h0
    have nm0 := hXG.xb.num (k := p) (by omega) h0
    have eE : bh wl (bh wl (p + 1) 1) (kn (wl.getD p 0)) = (bh wl p 1) := s1.2.1.symm
    have hEB : (bh wl (p + 1) 1) ≤ (bh wl p 1) := by rw [← eE]; exact bh_ge _ _ _
    have hBl := s1.2.2.1
    obtain ⟨hwl, F, h69, hWS, hWF⟩ := (id hWw : Ww G c0 wl)
    have bli := bh_le (l := wl) (s := (bh wl (p + 1) 1)) i (by omega)
    refine A_iload (q := 304) X dX9_apply_302 rfl rfl ?_
    refine A_iload (q := 306) X dX9_apply_304 rfl rfl ?_
    refine A_icmp_ge (q := 309) (t := 326) X dX9_apply_306 (by omega) (by omega) rfl rfl (fun hb306 => ?_) (fun hb306 => ?_)
    · have ei : i = ix := by omega
      have g := s1.1 i (by omega)
      have bl2 := bh_le (l := wl) (s := (bh wl (p + 1) 1)) (i + 1) (by omega)
      have bm := bh_mono wl (bh wl (p + 1) 1) i 1
      refine A_aload_n (q := 327) X dX9_apply_326 rfl rfl ?_
      refine A_iload (q := 329) X dX9_apply_327 rfl rfl ?_
      refine A_aload_n (q := 330) X dX9_apply_329 rfl rfl ?_
      refine A_getf (q := 333) X fX9_50 dX9_apply_330 (by omega) hA.choose_spec.1 rfl rfl ?_
      refine A_iload (q := 335) X dX9_apply_333 rfl rfl ?_
      refine A_S2i (q := 338) X (c_endW (p := ((bh wl (bh wl (p + 1) 1) i))) hG hN hWw hXG (by omega)) mX9_end kX9_76 dX9_apply_335 (by decide) (Nat.le_of_ble_eq_true rfl) rfl (fun vq_3 cq_2 hq_1 => ?_)
      obtain ⟨rfl, hq_1⟩ := hq_1
      obtain rfl := hq_1.symm
      rw [show bh wl (bh wl (bh wl (p + 1) 1) i) 1 = bh wl (bh wl (p + 1) 1) (i + 1) from (bh_add wl (bh wl (p + 1) 1) i 1).symm]
      refine A_V2v (q := 341) X (c_X9_addPart (wl := wl) (i := ((bh wl (bh wl (p + 1) 1) i))) (j := ((bh wl (bh wl (p + 1) 1) (i + 1)))) hG hN hA hWw (by omega) (by omega)) mX9_addPart kX9_169 dX9_apply_338 (by omega) (hA).choose_spec.1 rfl (by decide) (Nat.le_of_ble_eq_true rfl) rfl (fun cq_5 hq_4 => ?_)
      obtain ⟨hA_6, hf_7⟩ := hq_4
      refine A_goto (q := 369) X dX9_apply_341 rfl ?_
      refine AW.loc (sS rfl (sN (sN (sS rfl (sN (sN (sN (sN (sN (sN (sN (sN sE)))))))))))) (AW.mono (tl_X9_apply (b := (bh wl p 1)) X hG hN hA_6 (hWw.keep (((hf_7 69 (by omega) (by omega)).trans rfl))) hBl (fun k n0 n1 => ((hf_7 k (by omega) (by omega)).trans rfl))) ?_)
      rintro r9 c9 ⟨hr9, hA9, hf9⟩
      refine ⟨hr9, AX_eq hA9 (rw_of_r ?_), hf9⟩
      unfold pcR; rw [if_neg (by decide), if_neg (by decide), if_neg (by decide), if_pos rfl]; unfold pcK; rw [if_pos (by omega), hix, Int.toNat_natCast, ei, ← eF]
    · have g := s1.1 i (by omega)
      refine A_aload_n (q := 310) X dX9_apply_309 rfl rfl ?_
      refine A_getf (q := 313) X fX9_50 dX9_apply_310 (by omega) hA.choose_spec.1 rfl rfl ?_
      refine A_iload (q := 315) X dX9_apply_313 rfl rfl ?_
      refine A_S2i (q := 318) X (c_endW (p := ((bh wl (bh wl (p + 1) 1) i))) hG hN hWw hXG (by omega)) mX9_end kX9_76 dX9_apply_315 (by decide) (Nat.le_of_ble_eq_true rfl) rfl (fun vq_10 cq_9 hq_8 => ?_)
      obtain ⟨rfl, hq_8⟩ := hq_8
      obtain rfl := hq_8.symm
      rw [show bh wl (bh wl (bh wl (p + 1) 1) i) 1 = bh wl (bh wl (p + 1) 1) (i + 1) from (bh_add wl (bh wl (p + 1) 1) i 1).symm]
      refine A_istore (q := 320) X dX9_apply_318 (by decide) (okP_s rfl rfl) rfl ?_
      refine A_iinc (q := 323) X dX9_apply_320 rfl (by decide) (okP_s rfl rfl) rfl ?_
      refine A_goto (q := 302) X dX9_apply_323 rfl ?_
      exact AW.loc (sS rfl (sN (sN (sS rfl (sN (sN (sN (sN (sN (sS rfl (sS rfl (sZ rfl (by omega) sE)))))))))))) (ih (i + 1) (by omega) (by omega))
set_option maxRecDepth 100000 in
set_option maxHeartbeats 4000000 in
theorem ap0_apply {l : Launch} {G : Gm} {c : HP} {wl : List Int} {p : Nat} {th ts rmb obn pk : Int} {sd : Int64} (hG : injG G) (hN : G.2.1 = 72) (h55 : c 55 = ob9 G th ts rmb obn sd 0 pk) (hNx : ∃ F, c 70 = aI G 321 F) (hWw : Ww G c wl) (hXG : XG wl) (hp : p + 1 < wl.length) (h0 : wl.getD p 0 = 1000) (h1 : wl.getD (p + 1) 0 = 1001) : AMet l G yX9_apply cX9_apply 12 (none) (rmR 3 76) [.ref (G.1 55), .int (zI 0), .int (zI ((p : Nat) : Int))] c (Qv (fun c' => AX G c' th ts rmb obn sd pk (rwX wl p 0) ∧ (∀ k, k ≠ 55 → k ≠ 70 → c' k = c k))) := by
  refine AMet.of (vl := [some (.ref (G.1 55)), some (.int (zI 0)), some (.int (zI ((p : Nat) : Int)))]) (by decide) hG (Nat.le_of_ble_eq_true rfl) rfl ?_
  intro K X
  have X : Fx l G K cX9_apply 12 RX9 (none) (rmR 3 76) := X
  obtain ⟨F7, h70⟩ := hNx
  obtain ⟨hwl, F, h69, hWS, hWF⟩ := (id hWw : Ww G c wl)
  have ht0 := hXG.ta (k := p) (by omega)
  have ht1 := hXG.ta (k := p + 1) (by omega)
  have eE0 := bh_en0 hp
  have hBl := bh_le (l := wl) (s := p) 1 (by omega)
  have hEl := bh_le (l := wl) (s := p + 1) 1 (by omega)
  have hb2 := (XG_beta hXG hp h0 h1).2
  refine A_aload_n (q := 1) X dX9_apply_0 rfl rfl ?_
  refine A_getf (q := 4) X fX9_53 dX9_apply_1 (by omega) h55 rfl rfl ?_
  refine A_sipush (q := 7) X dX9_apply_4 (by decide) rfl ?_
  refine A_iconst (q := 8) X dX9_apply_7 rfl ?_
  refine A_iast (q := 9) (h := 70) 320 X dX9_apply_8 (by omega) h70 (by omega) (by omega) (by decide) rfl ?_
  have hA0 : AX G (va_up c 70 (aI G 321 (va_up F7 320 0))) th ts rmb obn sd pk [] := ⟨0, lk_ne (by decide) h55, ⟨_, lk_eq, fun _ => ⟨by decide, lk_eq, fun k hk => absurd hk (Nat.not_lt_zero _)⟩⟩, Or.inl rfl⟩
  refine A_aload_n (q := 10) X dX9_apply_9 rfl rfl ?_
  refine A_iconst (q := 11) X dX9_apply_10 rfl ?_
  refine A_iload_n (q := 12) X dX9_apply_11 rfl rfl ?_
  refine A_V2v (q := 15) X (c_X9_addPart (wl := wl) (i := 0) (j := (p)) hG hN hA0 (hWw.keep ((lk_ne (by omega) rfl))) (by omega) (by omega)) mX9_addPart kX9_169 dX9_apply_12 (by omega) (hA0).choose_spec.1 rfl (by decide) (Nat.le_of_ble_eq_true rfl) rfl (fun cq_2 hq_1 => ?_)
  obtain ⟨hA_3, hf_4⟩ := hq_1
  refine A_aload_n (q := 16) X dX9_apply_15 rfl rfl ?_
  refine A_getf (q := 19) X fX9_50 dX9_apply_16 (by omega) hA_3.choose_spec.1 rfl rfl ?_
  refine A_iload_n (q := 20) X dX9_apply_19 rfl rfl ?_
  refine A_S2i (q := 23) X (c_endW (p := (p)) hG hN (hWw.keep (((hf_4 69 (by omega) (by omega)).trans (lk_ne (by omega) rfl)))) hXG (by omega)) mX9_end kX9_76 dX9_apply_20 (by decide) (Nat.le_of_ble_eq_true rfl) rfl (fun vq_7 cq_6 hq_5 => ?_)
  obtain ⟨rfl, hq_5⟩ := hq_5
  obtain rfl := hq_5.symm
  refine A_istore_n (q := 24) X dX9_apply_23 (by decide) (okP_s rfl rfl) rfl ?_
  refine A_aload_n (q := 25) X dX9_apply_24 rfl rfl ?_
  refine A_getf (q := 28) X fX9_50 dX9_apply_25 (by omega) hA_3.choose_spec.1 rfl rfl ?_
  refine A_iload_n (q := 29) X dX9_apply_28 rfl rfl ?_
  refine A_iald (q := 30) (h := 69) (p) X dX9_apply_29 (by omega) ((hf_4 _ (by omega) (by omega)).trans (lk_ne (by omega) h69)) (by omega) (by omega) (by decide) rfl ?_
  rw [hWF (p) (by omega)]
  refine A_S1i (q := 33) X (c_X9_parts hG (by omega) (by omega)) mX9_parts kX9_64 dX9_apply_30 (by decide) (Nat.le_of_ble_eq_true rfl) rfl (fun vq_10 cq_9 hq_8 => ?_)
  obtain ⟨rfl, hq_8⟩ := hq_8
  obtain rfl := hq_8.symm
  refine A_iconst (q := 34) X dX9_apply_33 rfl ?_
  refine A_isub (q := 35) X dX9_apply_34 rfl ?_
  refine A_istore (q := 37) X dX9_apply_35 (by decide) (okP_s rfl rfl) rfl ?_
  refine A_aload_n (q := 38) X dX9_apply_37 rfl rfl ?_
  refine A_getf (q := 41) X fX9_50 dX9_apply_38 (by omega) hA_3.choose_spec.1 rfl rfl ?_
  refine A_iload_n (q := 42) X dX9_apply_41 rfl rfl ?_
  refine A_iald (q := 43) (h := 69) (p) X dX9_apply_42 (by omega) ((hf_4 _ (by omega) (by omega)).trans (lk_ne (by omega) h69)) (by omega) (by omega) (by decide) rfl ?_
  rw [hWF (p) (by omega)]
  refine A_ldc (q := 45) (n := 1000000) X dX9_apply_43 nX9_63 (by decide) rfl ?_
  refine A_isub (q := 46) X dX9_apply_45 rfl ?_
  refine A_sipush (q := 49) X dX9_apply_46 (by decide) rfl ?_
  refine A_irem_d (q := 50) (z := 0) X dX9_apply_49 (by rw [h0]; decide) (by decide) rfl ?_
  refine A_istore (q := 52) X dX9_apply_50 (by decide) (okP_s rfl rfl) rfl ?_
  refine A_iload_n (q := 53) X dX9_apply_52 rfl rfl ?_
  refine A_iconst (q := 54) X dX9_apply_53 rfl ?_
  refine A_iadd (q := 55) X dX9_apply_54 rfl ?_
  rw [show zI (((p : Nat) : Int) + 1) = zI ((p + 1 : Nat) : Int) from congrArg zI (by omega)]
  refine A_istore (q := 57) X dX9_apply_55 (by decide) (okP_s rfl rfl) rfl ?_
  refine A_aload_n (q := 58) X dX9_apply_57 rfl rfl ?_
  refine A_getf (q := 61) X fX9_50 dX9_apply_58 (by omega) hA_3.choose_spec.1 rfl rfl ?_
  refine A_iload (q := 63) X dX9_apply_61 rfl rfl ?_
  refine A_S2i (q := 66) X (c_endW (p := ((p + 1))) hG hN (hWw.keep (((hf_4 69 (by omega) (by omega)).trans (lk_ne (by omega) rfl)))) hXG (by omega)) mX9_end kX9_76 dX9_apply_63 (by decide) (Nat.le_of_ble_eq_true rfl) rfl (fun vq_13 cq_12 hq_11 => ?_)
  obtain ⟨rfl, hq_11⟩ := hq_11
  obtain rfl := hq_11.symm
  refine A_istore (q := 68) X dX9_apply_66 (by decide) (okP_s rfl rfl) rfl ?_
  refine A_iload_n (q := 69) X dX9_apply_68 rfl rfl ?_
  refine A_tableIn (q := 100) (off := 31) X dX9_apply_69 (by decide) (by decide) (by decide) rfl rfl ?_
  refine A_aload_n (q := 101) X dX9_apply_100 rfl rfl ?_
  refine A_ldc (q := 103) (n := 1001000) X dX9_apply_101 nX9_173 (by decide) rfl ?_
  refine A_V1v (q := 106) X (c_X9_add (t := 1001000) hG hN hA_3) mX9_add kX9_165 dX9_apply_103 (by omega) hA_3.choose_spec.1 rfl (by decide) (Nat.le_of_ble_eq_true rfl) rfl (fun cq_15 hq_14 => ?_)
  obtain ⟨hA_16, hf_17⟩ := hq_14
  refine A_aload_n (q := 107) X dX9_apply_106 rfl rfl ?_
  refine A_iload_n (q := 108) X dX9_apply_107 rfl rfl ?_
  refine A_iconst (q := 109) X dX9_apply_108 rfl ?_
  refine A_iadd (q := 110) X dX9_apply_109 rfl ?_
  refine A_iload_n (q := 111) X dX9_apply_110 rfl rfl ?_
  rw [show zI (((p : Nat) : Int) + 2) = zI ((((p) + 2) : Nat) : Int) from congrArg zI (by omega)]
  refine A_V2v (q := 114) X (c_X9_addPart (wl := wl) (i := (((p) + 2))) (j := ((bh wl (p) 1))) hG hN hA_16 (hWw.keep (((hf_17 69 (by omega) (by omega)).trans ((hf_4 69 (by omega) (by omega)).trans (lk_ne (by omega) rfl))))) (by omega) (by omega)) mX9_addPart kX9_169 dX9_apply_111 (by omega) (hA_16).choose_spec.1 rfl (by decide) (Nat.le_of_ble_eq_true rfl) rfl (fun cq_19 hq_18 => ?_)
  obtain ⟨hA_20, hf_21⟩ := hq_18
  refine A_goto (q := 369) X dX9_apply_114 rfl ?_
  refine AW.loc (sS rfl (sN (sN (sS rfl (sN (sN (sN (sN (sN (sN (sN (sN sE)))))))))))) (AW.mono (tl_X9_apply (b := (bh wl p 1)) X hG hN hA_20 (hWw.keep (((hf_21 69 (by omega) (by omega)).trans ((hf_17 69 (by omega) (by omega)).trans ((hf_4 69 (by omega) (by omega)).trans (lk_ne (by omega) rfl)))))) hBl (fun k n0 n1 => ((hf_21 k (by omega) (by omega)).trans ((hf_17 k (by omega) (by omega)).trans ((hf_4 k (by omega) (by omega)).trans (lk_ne (by omega) rfl)))))) ?_)
  rintro r9 c9 ⟨hr9, hA9, hf9⟩
  exact ⟨hr9, AX_eq hA9 (by rw [List.append_assoc (([] : List Int) ++ sl wl 0 p)]; refine rw_of_r ?_; unfold pcR; rw [if_pos rfl]; unfold pcB; rw [show (1001000 : Int) = clo 1 0 from rfl]; rfl), hf9⟩
set_option maxRecDepth 100000 in
set_option maxHeartbeats 4000000 in
theorem ap1_apply {l : Launch} {G : Gm} {c : HP} {wl : List Int} {p : Nat} {th ts rmb obn pk : Int} {sd : Int64} (hG : injG G) (hN : G.2.1 = 72) (h55 : c 55 = ob9 G th ts rmb obn sd 0 pk) (hNx : ∃ F, c 70 = aI G 321 F) (hWw : Ww G c wl) (hXG : XG wl) (hp : p + 1 < wl.length) (h0 : 1000000 ≤ wl.getD p 0) (h1 : wl.getD (p + 1) 0 = 1000) : AMet l G yX9_apply cX9_apply 12 (none) (rmR 3 76) [.ref (G.1 55), .int (zI 1), .int (zI ((p : Nat) : Int))] c (Qv (fun c' => AX G c' th ts rmb obn sd pk (rwX wl p 1) ∧ (∀ k, k ≠ 55 → k ≠ 70 → c' k = c k))) := by
  refine AMet.of (vl := [some (.ref (G.1 55)), some (.int (zI 1)), some (.int (zI ((p : Nat) : Int)))]) (by decide) hG (Nat.le_of_ble_eq_true rfl) rfl ?_
  intro K X
  have X : Fx l G K cX9_apply 12 RX9 (none) (rmR 3 76) := X
  obtain ⟨F7, h70⟩ := hNx
  obtain ⟨hwl, F, h69, hWS, hWF⟩ := (id hWw : Ww G c wl)
  have ht0 := hXG.ta (k := p) (by omega)
  have ht1 := hXG.ta (k := p + 1) (by omega)
  have eE0 := bh_en0 hp
  have hBl := bh_le (l := wl) (s := p) 1 (by omega)
  have hEl := bh_le (l := wl) (s := p + 1) 1 (by omega)
  have s1 := ent_str hXG hp h0
  have nm0 := hXG.xb.num (k := p) (by omega) h0
  have eE : bh wl (bh wl (p + 1) 1) (kn (wl.getD p 0)) = (bh wl p 1) := s1.2.1.symm
  have hEB : (bh wl (p + 1) 1) ≤ (bh wl p 1) := by rw [← eE]; exact bh_ge _ _ _
  rw [h1, show prt (1000 : Int) = 2 from rfl] at eE0
  have hp2 : p + 2 < wl.length := hXG.next hp (by rw [h1]; decide)
  have bm := bh_mono wl (p + 2) 1 1
  rw [show 1 + 1 = 2 from rfl, ← eE0] at bm
  have bg := bh_ge wl (p + 2) 1
  have eA := (XG_apply hXG hp h0 h1).2
  refine A_aload_n (q := 1) X dX9_apply_0 rfl rfl ?_
  refine A_getf (q := 4) X fX9_53 dX9_apply_1 (by omega) h55 rfl rfl ?_
  refine A_sipush (q := 7) X dX9_apply_4 (by decide) rfl ?_
  refine A_iconst (q := 8) X dX9_apply_7 rfl ?_
  refine A_iast (q := 9) (h := 70) 320 X dX9_apply_8 (by omega) h70 (by omega) (by omega) (by decide) rfl ?_
  have hA0 : AX G (va_up c 70 (aI G 321 (va_up F7 320 0))) th ts rmb obn sd pk [] := ⟨0, lk_ne (by decide) h55, ⟨_, lk_eq, fun _ => ⟨by decide, lk_eq, fun k hk => absurd hk (Nat.not_lt_zero _)⟩⟩, Or.inl rfl⟩
  refine A_aload_n (q := 10) X dX9_apply_9 rfl rfl ?_
  refine A_iconst (q := 11) X dX9_apply_10 rfl ?_
  refine A_iload_n (q := 12) X dX9_apply_11 rfl rfl ?_
  refine A_V2v (q := 15) X (c_X9_addPart (wl := wl) (i := 0) (j := (p)) hG hN hA0 (hWw.keep ((lk_ne (by omega) rfl))) (by omega) (by omega)) mX9_addPart kX9_169 dX9_apply_12 (by omega) (hA0).choose_spec.1 rfl (by decide) (Nat.le_of_ble_eq_true rfl) rfl (fun cq_2 hq_1 => ?_)
  obtain ⟨hA_3, hf_4⟩ := hq_1
  refine A_aload_n (q := 16) X dX9_apply_15 rfl rfl ?_
  refine A_getf (q := 19) X fX9_50 dX9_apply_16 (by omega) hA_3.choose_spec.1 rfl rfl ?_
  refine A_iload_n (q := 20) X dX9_apply_19 rfl rfl ?_
  refine A_S2i (q := 23) X (c_endW (p := (p)) hG hN (hWw.keep (((hf_4 69 (by omega) (by omega)).trans (lk_ne (by omega) rfl)))) hXG (by omega)) mX9_end kX9_76 dX9_apply_20 (by decide) (Nat.le_of_ble_eq_true rfl) rfl (fun vq_7 cq_6 hq_5 => ?_)
  obtain ⟨rfl, hq_5⟩ := hq_5
  obtain rfl := hq_5.symm
  refine A_istore_n (q := 24) X dX9_apply_23 (by decide) (okP_s rfl rfl) rfl ?_
  refine A_aload_n (q := 25) X dX9_apply_24 rfl rfl ?_
  refine A_getf (q := 28) X fX9_50 dX9_apply_25 (by omega) hA_3.choose_spec.1 rfl rfl ?_
  refine A_iload_n (q := 29) X dX9_apply_28 rfl rfl ?_
  refine A_iald (q := 30) (h := 69) (p) X dX9_apply_29 (by omega) ((hf_4 _ (by omega) (by omega)).trans (lk_ne (by omega) h69)) (by omega) (by omega) (by decide) rfl ?_
  rw [hWF (p) (by omega)]
  refine A_S1i (q := 33) X (c_X9_parts hG (by omega) (by omega)) mX9_parts kX9_64 dX9_apply_30 (by decide) (Nat.le_of_ble_eq_true rfl) rfl (fun vq_10 cq_9 hq_8 => ?_)
  obtain ⟨rfl, hq_8⟩ := hq_8
  obtain rfl := hq_8.symm
  refine A_iconst (q := 34) X dX9_apply_33 rfl ?_
  refine A_isub (q := 35) X dX9_apply_34 rfl ?_
  rw [show (((prt (wl.getD p 0)) : Nat) : Int) - 1 = (((kn (wl.getD p 0)) : Nat) : Int) from by rw [prt_c h0]; omega]
  refine A_istore (q := 37) X dX9_apply_35 (by decide) (okP_s rfl rfl) rfl ?_
  refine A_aload_n (q := 38) X dX9_apply_37 rfl rfl ?_
  refine A_getf (q := 41) X fX9_50 dX9_apply_38 (by omega) hA_3.choose_spec.1 rfl rfl ?_
  refine A_iload_n (q := 42) X dX9_apply_41 rfl rfl ?_
  refine A_iald (q := 43) (h := 69) (p) X dX9_apply_42 (by omega) ((hf_4 _ (by omega) (by omega)).trans (lk_ne (by omega) h69)) (by omega) (by omega) (by decide) rfl ?_
  rw [hWF (p) (by omega)]
  refine A_ldc (q := 45) (n := 1000000) X dX9_apply_43 nX9_63 (by decide) rfl ?_
  refine A_isub (q := 46) X dX9_apply_45 rfl ?_
  refine A_sipush (q := 49) X dX9_apply_46 (by decide) rfl ?_
  refine A_irem (q := 50) X dX9_apply_49 (by omega) (by omega) (by decide) (by decide) rfl ?_
  rw [show (wl.getD p 0 - 1000000) % 1000 = (((kh (wl.getD p 0)) : Nat) : Int) from by unfold kh; omega]
  refine A_istore (q := 52) X dX9_apply_50 (by decide) (okP_s rfl rfl) rfl ?_
  refine A_iload_n (q := 53) X dX9_apply_52 rfl rfl ?_
  refine A_iconst (q := 54) X dX9_apply_53 rfl ?_
  refine A_iadd (q := 55) X dX9_apply_54 rfl ?_
  rw [show zI (((p : Nat) : Int) + 1) = zI ((p + 1 : Nat) : Int) from congrArg zI (by omega)]
  refine A_istore (q := 57) X dX9_apply_55 (by decide) (okP_s rfl rfl) rfl ?_
  refine A_aload_n (q := 58) X dX9_apply_57 rfl rfl ?_
  refine A_getf (q := 61) X fX9_50 dX9_apply_58 (by omega) hA_3.choose_spec.1 rfl rfl ?_
  refine A_iload (q := 63) X dX9_apply_61 rfl rfl ?_
  refine A_S2i (q := 66) X (c_endW (p := ((p + 1))) hG hN (hWw.keep (((hf_4 69 (by omega) (by omega)).trans (lk_ne (by omega) rfl)))) hXG (by omega)) mX9_end kX9_76 dX9_apply_63 (by decide) (Nat.le_of_ble_eq_true rfl) rfl (fun vq_13 cq_12 hq_11 => ?_)
  obtain ⟨rfl, hq_11⟩ := hq_11
  obtain rfl := hq_11.symm
  refine A_istore (q := 68) X dX9_apply_66 (by decide) (okP_s rfl rfl) rfl ?_
  refine A_iload_n (q := 69) X dX9_apply_68 rfl rfl ?_
  refine A_tableIn (q := 117) (off := 48) X dX9_apply_69 (by decide) (by decide) (by decide) rfl rfl ?_
  refine A_aload_n (q := 118) X dX9_apply_117 rfl rfl ?_
  refine A_getf (q := 121) X fX9_50 dX9_apply_118 (by omega) hA_3.choose_spec.1 rfl rfl ?_
  refine A_iload_n (q := 122) X dX9_apply_121 rfl rfl ?_
  refine A_iconst (q := 123) X dX9_apply_122 rfl ?_
  refine A_iadd (q := 124) X dX9_apply_123 rfl ?_
  rw [show zI (((p : Nat) : Int) + 2) = zI ((((p) + 2) : Nat) : Int) from congrArg zI (by omega)]
  refine A_S2i (q := 127) X (c_endW (p := (((p) + 2))) hG hN (hWw.keep (((hf_4 69 (by omega) (by omega)).trans (lk_ne (by omega) rfl)))) hXG (by omega)) mX9_end kX9_76 dX9_apply_124 (by decide) (Nat.le_of_ble_eq_true rfl) rfl (fun vq_16 cq_15 hq_14 => ?_)
  obtain ⟨rfl, hq_14⟩ := hq_14
  obtain rfl := hq_14.symm
  refine A_istore (q := 129) X dX9_apply_127 (by decide) (okP_s rfl rfl) rfl ?_
  refine A_aload_n (q := 130) X dX9_apply_129 rfl rfl ?_
  refine A_sipush (q := 133) X dX9_apply_130 (by decide) rfl ?_
  refine A_V1v (q := 136) X (c_X9_add (t := 1000) hG hN hA_3) mX9_add kX9_165 dX9_apply_133 (by omega) hA_3.choose_spec.1 rfl (by decide) (Nat.le_of_ble_eq_true rfl) rfl (fun cq_18 hq_17 => ?_)
  obtain ⟨hA_19, hf_20⟩ := hq_17
  refine A_aload_n (q := 137) X dX9_apply_136 rfl rfl ?_
  refine A_aload_n (q := 138) X dX9_apply_137 rfl rfl ?_
  refine A_getf (q := 141) X fX9_50 dX9_apply_138 (by omega) hA_19.choose_spec.1 rfl rfl ?_
  refine A_iload_n (q := 142) X dX9_apply_141 rfl rfl ?_
  refine A_iald (q := 143) (h := 69) (p) X dX9_apply_142 (by omega) ((hf_20 _ (by omega) (by omega)).trans ((hf_4 _ (by omega) (by omega)).trans (lk_ne (by omega) h69))) (by omega) (by omega) (by decide) rfl ?_
  rw [hWF (p) (by omega)]
  refine A_V1v (q := 146) X (c_X9_add (t := (wl.getD (p) 0)) hG hN hA_19) mX9_add kX9_165 dX9_apply_143 (by omega) hA_19.choose_spec.1 rfl (by decide) (Nat.le_of_ble_eq_true rfl) rfl (fun cq_22 hq_21 => ?_)
  obtain ⟨hA_23, hf_24⟩ := hq_21
  refine A_aload_n (q := 147) X dX9_apply_146 rfl rfl ?_
  refine A_iload_n (q := 148) X dX9_apply_147 rfl rfl ?_
  refine A_iconst (q := 149) X dX9_apply_148 rfl ?_
  refine A_iadd (q := 150) X dX9_apply_149 rfl ?_
  refine A_iload (q := 152) X dX9_apply_150 rfl rfl ?_
  rw [show zI (((p : Nat) : Int) + 2) = zI ((((p) + 2) : Nat) : Int) from congrArg zI (by omega)]
  refine A_V2v (q := 155) X (c_X9_addPart (wl := wl) (i := (((p) + 2))) (j := ((bh wl (((p) + 2)) 1))) hG hN hA_23 (hWw.keep (((hf_24 69 (by omega) (by omega)).trans ((hf_20 69 (by omega) (by omega)).trans ((hf_4 69 (by omega) (by omega)).trans (lk_ne (by omega) rfl)))))) (by omega) (by omega)) mX9_addPart kX9_169 dX9_apply_152 (by omega) (hA_23).choose_spec.1 rfl (by decide) (Nat.le_of_ble_eq_true rfl) rfl (fun cq_26 hq_25 => ?_)
  obtain ⟨hA_27, hf_28⟩ := hq_25
  refine A_aload_n (q := 156) X dX9_apply_155 rfl rfl ?_
  refine A_iload (q := 158) X dX9_apply_156 rfl rfl ?_
  refine A_iload_n (q := 159) X dX9_apply_158 rfl rfl ?_
  refine A_V2v (q := 162) X (c_X9_addPart (wl := wl) (i := ((bh wl ((p + 1)) 1))) (j := ((bh wl (p) 1))) hG hN hA_27 (hWw.keep (((hf_28 69 (by omega) (by omega)).trans ((hf_24 69 (by omega) (by omega)).trans ((hf_20 69 (by omega) (by omega)).trans ((hf_4 69 (by omega) (by omega)).trans (lk_ne (by omega) rfl))))))) (by omega) (by omega)) mX9_addPart kX9_169 dX9_apply_159 (by omega) (hA_27).choose_spec.1 rfl (by decide) (Nat.le_of_ble_eq_true rfl) rfl (fun cq_30 hq_29 => ?_)
  obtain ⟨hA_31, hf_32⟩ := hq_29
  refine A_aload_n (q := 163) X dX9_apply_162 rfl rfl ?_
  refine A_aload_n (q := 164) X dX9_apply_163 rfl rfl ?_
  refine A_getf (q := 167) X fX9_50 dX9_apply_164 (by omega) hA_31.choose_spec.1 rfl rfl ?_
  refine A_iload_n (q := 168) X dX9_apply_167 rfl rfl ?_
  refine A_iald (q := 169) (h := 69) (p) X dX9_apply_168 (by omega) ((hf_32 _ (by omega) (by omega)).trans ((hf_28 _ (by omega) (by omega)).trans ((hf_24 _ (by omega) (by omega)).trans ((hf_20 _ (by omega) (by omega)).trans ((hf_4 _ (by omega) (by omega)).trans (lk_ne (by omega) h69)))))) (by omega) (by omega) (by decide) rfl ?_
  rw [hWF (p) (by omega)]
  refine A_V1v (q := 172) X (c_X9_add (t := (wl.getD (p) 0)) hG hN hA_31) mX9_add kX9_165 dX9_apply_169 (by omega) hA_31.choose_spec.1 rfl (by decide) (Nat.le_of_ble_eq_true rfl) rfl (fun cq_34 hq_33 => ?_)
  obtain ⟨hA_35, hf_36⟩ := hq_33
  refine A_aload_n (q := 173) X dX9_apply_172 rfl rfl ?_
  refine A_iload (q := 175) X dX9_apply_173 rfl rfl ?_
  refine A_iload (q := 177) X dX9_apply_175 rfl rfl ?_
  refine A_V2v (q := 180) X (c_X9_addPart (wl := wl) (i := ((bh wl (((p) + 2)) 1))) (j := ((bh wl ((p + 1)) 1))) hG hN hA_35 (hWw.keep (((hf_36 69 (by omega) (by omega)).trans ((hf_32 69 (by omega) (by omega)).trans ((hf_28 69 (by omega) (by omega)).trans ((hf_24 69 (by omega) (by omega)).trans ((hf_20 69 (by omega) (by omega)).trans ((hf_4 69 (by omega) (by omega)).trans (lk_ne (by omega) rfl))))))))) (by omega) (by omega)) mX9_addPart kX9_169 dX9_apply_177 (by omega) (hA_35).choose_spec.1 rfl (by decide) (Nat.le_of_ble_eq_true rfl) rfl (fun cq_38 hq_37 => ?_)
  obtain ⟨hA_39, hf_40⟩ := hq_37
  refine A_aload_n (q := 181) X dX9_apply_180 rfl rfl ?_
  refine A_iload (q := 183) X dX9_apply_181 rfl rfl ?_
  refine A_iload_n (q := 184) X dX9_apply_183 rfl rfl ?_
  refine A_V2v (q := 187) X (c_X9_addPart (wl := wl) (i := ((bh wl ((p + 1)) 1))) (j := ((bh wl (p) 1))) hG hN hA_39 (hWw.keep (((hf_40 69 (by omega) (by omega)).trans ((hf_36 69 (by omega) (by omega)).trans ((hf_32 69 (by omega) (by omega)).trans ((hf_28 69 (by omega) (by omega)).trans ((hf_24 69 (by omega) (by omega)).trans ((hf_20 69 (by omega) (by omega)).trans ((hf_4 69 (by omega) (by omega)).trans (lk_ne (by omega) rfl)))))))))) (by omega) (by omega)) mX9_addPart kX9_169 dX9_apply_184 (by omega) (hA_39).choose_spec.1 rfl (by decide) (Nat.le_of_ble_eq_true rfl) rfl (fun cq_42 hq_41 => ?_)
  obtain ⟨hA_43, hf_44⟩ := hq_41
  refine A_goto (q := 369) X dX9_apply_187 rfl ?_
  refine AW.loc (sS rfl (sN (sN (sS rfl (sN (sN (sN (sN (sN (sN (sN (sN sE)))))))))))) (AW.mono (tl_X9_apply (b := (bh wl p 1)) X hG hN hA_43 (hWw.keep (((hf_44 69 (by omega) (by omega)).trans ((hf_40 69 (by omega) (by omega)).trans ((hf_36 69 (by omega) (by omega)).trans ((hf_32 69 (by omega) (by omega)).trans ((hf_28 69 (by omega) (by omega)).trans ((hf_24 69 (by omega) (by omega)).trans ((hf_20 69 (by omega) (by omega)).trans ((hf_4 69 (by omega) (by omega)).trans (lk_ne (by omega) rfl))))))))))) hBl (fun k n0 n1 => ((hf_44 k (by omega) (by omega)).trans ((hf_40 k (by omega) (by omega)).trans ((hf_36 k (by omega) (by omega)).trans ((hf_32 k (by omega) (by omega)).trans ((hf_28 k (by omega) (by omega)).trans ((hf_24 k (by omega) (by omega)).trans ((hf_20 k (by omega) (by omega)).trans ((hf_4 k (by omega) (by omega)).trans (lk_ne (by omega) rfl))))))))))) ?_)
  rintro r9 c9 ⟨hr9, hA9, hf9⟩
  exact ⟨hr9, AX_eq hA9 (by unfold rwX pcR; rw [if_neg (by decide), if_pos rfl]; unfold pcA; rw [← eA, ← eE0, ← sl_join (l := wl) (i := bh wl (p + 2) 1) (j := (bh wl (p + 1) 1)) (k := (bh wl p 1)) (by omega) (by omega)]; simp only [List.append_assoc, List.cons_append, List.nil_append, sl_0, sl_end]), hf9⟩
set_option maxRecDepth 100000 in
set_option maxHeartbeats 4000000 in
theorem ap2_apply {l : Launch} {G : Gm} {c : HP} {wl : List Int} {p : Nat} {th ts rmb obn pk : Int} {sd : Int64} (hG : injG G) (hN : G.2.1 = 72) (h55 : c 55 = ob9 G th ts rmb obn sd 0 pk) (hNx : ∃ F, c 70 = aI G 321 F) (hWw : Ww G c wl) (hXG : XG wl) (hp : p + 1 < wl.length) (h0 : 1000000 ≤ wl.getD p 0) (h1 : wl.getD (p + 1) 0 = 1001) : AMet l G yX9_apply cX9_apply 12 (none) (rmR 3 76) [.ref (G.1 55), .int (zI 2), .int (zI ((p : Nat) : Int))] c (Qv (fun c' => AX G c' th ts rmb obn sd pk (rwX wl p 2) ∧ (∀ k, k ≠ 55 → k ≠ 70 → c' k = c k))) := by
  refine AMet.of (vl := [some (.ref (G.1 55)), some (.int (zI 2)), some (.int (zI ((p : Nat) : Int)))]) (by decide) hG (Nat.le_of_ble_eq_true rfl) rfl ?_
  intro K X
  have X : Fx l G K cX9_apply 12 RX9 (none) (rmR 3 76) := X
  obtain ⟨F7, h70⟩ := hNx
  obtain ⟨hwl, F, h69, hWS, hWF⟩ := (id hWw : Ww G c wl)
  have ht0 := hXG.ta (k := p) (by omega)
  have ht1 := hXG.ta (k := p + 1) (by omega)
  have eE0 := bh_en0 hp
  have hBl := bh_le (l := wl) (s := p) 1 (by omega)
  have hEl := bh_le (l := wl) (s := p + 1) 1 (by omega)
  have s1 := ent_str hXG hp h0
  have nm0 := hXG.xb.num (k := p) (by omega) h0
  have eE : bh wl (bh wl (p + 1) 1) (kn (wl.getD p 0)) = (bh wl p 1) := s1.2.1.symm
  have hEB : (bh wl (p + 1) 1) ≤ (bh wl p 1) := by rw [← eE]; exact bh_ge _ _ _
  rw [h1, show prt (1001 : Int) = 1 from rfl] at eE0
  have bg := bh_ge wl (p + 2) 1
  refine A_aload_n (q := 1) X dX9_apply_0 rfl rfl ?_
  refine A_getf (q := 4) X fX9_53 dX9_apply_1 (by omega) h55 rfl rfl ?_
  refine A_sipush (q := 7) X dX9_apply_4 (by decide) rfl ?_
  refine A_iconst (q := 8) X dX9_apply_7 rfl ?_
  refine A_iast (q := 9) (h := 70) 320 X dX9_apply_8 (by omega) h70 (by omega) (by omega) (by decide) rfl ?_
  have hA0 : AX G (va_up c 70 (aI G 321 (va_up F7 320 0))) th ts rmb obn sd pk [] := ⟨0, lk_ne (by decide) h55, ⟨_, lk_eq, fun _ => ⟨by decide, lk_eq, fun k hk => absurd hk (Nat.not_lt_zero _)⟩⟩, Or.inl rfl⟩
  refine A_aload_n (q := 10) X dX9_apply_9 rfl rfl ?_
  refine A_iconst (q := 11) X dX9_apply_10 rfl ?_
  refine A_iload_n (q := 12) X dX9_apply_11 rfl rfl ?_
  refine A_V2v (q := 15) X (c_X9_addPart (wl := wl) (i := 0) (j := (p)) hG hN hA0 (hWw.keep ((lk_ne (by omega) rfl))) (by omega) (by omega)) mX9_addPart kX9_169 dX9_apply_12 (by omega) (hA0).choose_spec.1 rfl (by decide) (Nat.le_of_ble_eq_true rfl) rfl (fun cq_2 hq_1 => ?_)
  obtain ⟨hA_3, hf_4⟩ := hq_1
  refine A_aload_n (q := 16) X dX9_apply_15 rfl rfl ?_
  refine A_getf (q := 19) X fX9_50 dX9_apply_16 (by omega) hA_3.choose_spec.1 rfl rfl ?_
  refine A_iload_n (q := 20) X dX9_apply_19 rfl rfl ?_
  refine A_S2i (q := 23) X (c_endW (p := (p)) hG hN (hWw.keep (((hf_4 69 (by omega) (by omega)).trans (lk_ne (by omega) rfl)))) hXG (by omega)) mX9_end kX9_76 dX9_apply_20 (by decide) (Nat.le_of_ble_eq_true rfl) rfl (fun vq_7 cq_6 hq_5 => ?_)
  obtain ⟨rfl, hq_5⟩ := hq_5
  obtain rfl := hq_5.symm
  refine A_istore_n (q := 24) X dX9_apply_23 (by decide) (okP_s rfl rfl) rfl ?_
  refine A_aload_n (q := 25) X dX9_apply_24 rfl rfl ?_
  refine A_getf (q := 28) X fX9_50 dX9_apply_25 (by omega) hA_3.choose_spec.1 rfl rfl ?_
  refine A_iload_n (q := 29) X dX9_apply_28 rfl rfl ?_
  refine A_iald (q := 30) (h := 69) (p) X dX9_apply_29 (by omega) ((hf_4 _ (by omega) (by omega)).trans (lk_ne (by omega) h69)) (by omega) (by omega) (by decide) rfl ?_
  rw [hWF (p) (by omega)]
  refine A_S1i (q := 33) X (c_X9_parts hG (by omega) (by omega)) mX9_parts kX9_64 dX9_apply_30 (by decide) (Nat.le_of_ble_eq_true rfl) rfl (fun vq_10 cq_9 hq_8 => ?_)
  obtain ⟨rfl, hq_8⟩ := hq_8
  obtain rfl := hq_8.symm
  refine A_iconst (q := 34) X dX9_apply_33 rfl ?_
  refine A_isub (q := 35) X dX9_apply_34 rfl ?_
  rw [show (((prt (wl.getD p 0)) : Nat) : Int) - 1 = (((kn (wl.getD p 0)) : Nat) : Int) from by rw [prt_c h0]; omega]
  refine A_istore (q := 37) X dX9_apply_35 (by decide) (okP_s rfl rfl) rfl ?_
  refine A_aload_n (q := 38) X dX9_apply_37 rfl rfl ?_
  refine A_getf (q := 41) X fX9_50 dX9_apply_38 (by omega) hA_3.choose_spec.1 rfl rfl ?_
  refine A_iload_n (q := 42) X dX9_apply_41 rfl rfl ?_
  refine A_iald (q := 43) (h := 69) (p) X dX9_apply_42 (by omega) ((hf_4 _ (by omega) (by omega)).trans (lk_ne (by omega) h69)) (by omega) (by omega) (by decide) rfl ?_
  rw [hWF (p) (by omega)]
  refine A_ldc (q := 45) (n := 1000000) X dX9_apply_43 nX9_63 (by decide) rfl ?_
  refine A_isub (q := 46) X dX9_apply_45 rfl ?_
  refine A_sipush (q := 49) X dX9_apply_46 (by decide) rfl ?_
  refine A_irem (q := 50) X dX9_apply_49 (by omega) (by omega) (by decide) (by decide) rfl ?_
  rw [show (wl.getD p 0 - 1000000) % 1000 = (((kh (wl.getD p 0)) : Nat) : Int) from by unfold kh; omega]
  refine A_istore (q := 52) X dX9_apply_50 (by decide) (okP_s rfl rfl) rfl ?_
  refine A_iload_n (q := 53) X dX9_apply_52 rfl rfl ?_
  refine A_iconst (q := 54) X dX9_apply_53 rfl ?_
  refine A_iadd (q := 55) X dX9_apply_54 rfl ?_
  rw [show zI (((p : Nat) : Int) + 1) = zI ((p + 1 : Nat) : Int) from congrArg zI (by omega)]
  refine A_istore (q := 57) X dX9_apply_55 (by decide) (okP_s rfl rfl) rfl ?_
  refine A_aload_n (q := 58) X dX9_apply_57 rfl rfl ?_
  refine A_getf (q := 61) X fX9_50 dX9_apply_58 (by omega) hA_3.choose_spec.1 rfl rfl ?_
  refine A_iload (q := 63) X dX9_apply_61 rfl rfl ?_
  refine A_S2i (q := 66) X (c_endW (p := ((p + 1))) hG hN (hWw.keep (((hf_4 69 (by omega) (by omega)).trans (lk_ne (by omega) rfl)))) hXG (by omega)) mX9_end kX9_76 dX9_apply_63 (by decide) (Nat.le_of_ble_eq_true rfl) rfl (fun vq_13 cq_12 hq_11 => ?_)
  obtain ⟨rfl, hq_11⟩ := hq_11
  obtain rfl := hq_11.symm
  refine A_istore (q := 68) X dX9_apply_66 (by decide) (okP_s rfl rfl) rfl ?_
  refine A_iload_n (q := 69) X dX9_apply_68 rfl rfl ?_
  refine A_tableIn (q := 190) (off := 121) X dX9_apply_69 (by decide) (by decide) (by decide) rfl rfl ?_
  refine A_aload_n (q := 191) X dX9_apply_190 rfl rfl ?_
  refine A_sipush (q := 194) X dX9_apply_191 (by decide) rfl ?_
  refine A_V1v (q := 197) X (c_X9_add (t := 1001) hG hN hA_3) mX9_add kX9_165 dX9_apply_194 (by omega) hA_3.choose_spec.1 rfl (by decide) (Nat.le_of_ble_eq_true rfl) rfl (fun cq_15 hq_14 => ?_)
  obtain ⟨hA_16, hf_17⟩ := hq_14
  refine A_aload_n (q := 198) X dX9_apply_197 rfl rfl ?_
  refine A_ldc (q := 200) (n := 1000000) X dX9_apply_198 nX9_63 (by decide) rfl ?_
  refine A_sipush (q := 203) X dX9_apply_200 (by decide) rfl ?_
  refine A_iload (q := 205) X dX9_apply_203 rfl rfl ?_
  refine A_iconst (q := 206) X dX9_apply_205 rfl ?_
  refine A_iadd (q := 207) X dX9_apply_206 rfl ?_
  refine A_imul (q := 208) X dX9_apply_207 rfl ?_
  refine A_iadd (q := 209) X dX9_apply_208 rfl ?_
  refine A_iload (q := 211) X dX9_apply_209 rfl rfl ?_
  refine A_iadd (q := 212) X dX9_apply_211 rfl ?_
  refine A_iconst (q := 213) X dX9_apply_212 rfl ?_
  refine A_iadd (q := 214) X dX9_apply_213 rfl ?_
  rw [show zI (((1000000 + (1000 * ((((kn (wl.getD p 0)) : Nat) : Int) + 1))) + (((kh (wl.getD p 0)) : Nat) : Int)) + 1) = zI (clo ((kn (wl.getD p 0)) + 1) ((kh (wl.getD p 0)) + 1)) from congrArg zI (by unfold clo; omega)]
  refine A_V1v (q := 217) X (c_X9_add (t := (clo ((kn (wl.getD p 0)) + 1) ((kh (wl.getD p 0)) + 1))) hG hN hA_16) mX9_add kX9_165 dX9_apply_214 (by omega) hA_16.choose_spec.1 rfl (by decide) (Nat.le_of_ble_eq_true rfl) rfl (fun cq_19 hq_18 => ?_)
  obtain ⟨hA_20, hf_21⟩ := hq_18
  refine A_aload_n (q := 218) X dX9_apply_217 rfl rfl ?_
  refine A_iload_n (q := 219) X dX9_apply_218 rfl rfl ?_
  refine A_iconst (q := 220) X dX9_apply_219 rfl ?_
  refine A_iadd (q := 221) X dX9_apply_220 rfl ?_
  refine A_iload (q := 223) X dX9_apply_221 rfl rfl ?_
  rw [show zI (((p : Nat) : Int) + 2) = zI ((((p) + 2) : Nat) : Int) from congrArg zI (by omega)]
  refine A_V2v (q := 226) X (c_X9_addPart (wl := wl) (i := (((p) + 2))) (j := ((bh wl ((p + 1)) 1))) hG hN hA_20 (hWw.keep (((hf_21 69 (by omega) (by omega)).trans ((hf_17 69 (by omega) (by omega)).trans ((hf_4 69 (by omega) (by omega)).trans (lk_ne (by omega) rfl)))))) (by omega) (by omega)) mX9_addPart kX9_169 dX9_apply_223 (by omega) (hA_20).choose_spec.1 rfl (by decide) (Nat.le_of_ble_eq_true rfl) rfl (fun cq_23 hq_22 => ?_)
  obtain ⟨hA_24, hf_25⟩ := hq_22
  refine A_aload_n (q := 227) X dX9_apply_226 rfl rfl ?_
  refine A_iconst (q := 228) X dX9_apply_227 rfl ?_
  refine A_V1v (q := 231) X (c_X9_add (t := 0) hG hN hA_24) mX9_add kX9_165 dX9_apply_228 (by omega) hA_24.choose_spec.1 rfl (by decide) (Nat.le_of_ble_eq_true rfl) rfl (fun cq_27 hq_26 => ?_)
  obtain ⟨hA_28, hf_29⟩ := hq_26
  refine A_iload (q := 233) X dX9_apply_231 rfl rfl ?_
  refine A_istore (q := 235) X dX9_apply_233 (by decide) (okP_n rfl) rfl ?_
  exact AW.loc (sS rfl (sN (sN (sS rfl (sN (sN (sN (sN (sN (sS (by rw [bh_0]; rfl) (sN (sN sE)))))))))))) (lpA_X9_apply X hG hN hXG hp h0 eE0.symm hWw _ 0 _ (Nat.lt_succ_self _) (Nat.zero_le _) (AX_eq hA_28 (by show _ = (([] ++ sl wl 0 p) ++ (1001 :: clo ((kn (wl.getD p 0)) + 1) ((kh (wl.getD p 0)) + 1) :: (sl wl (p + 2) (bh wl (p + 1) 1) ++ [0]))) ++ []; simp only [List.append_assoc, List.cons_append, List.nil_append, List.append_nil])) (fun k n0 n1 => ((hf_29 k (by omega) (by omega)).trans ((hf_25 k (by omega) (by omega)).trans ((hf_21 k (by omega) (by omega)).trans ((hf_17 k (by omega) (by omega)).trans ((hf_4 k (by omega) (by omega)).trans (lk_ne (by omega) rfl))))))))
set_option maxRecDepth 100000 in
set_option maxHeartbeats 4000000 in
theorem ap3_apply {l : Launch} {G : Gm} {c : HP} {wl : List Int} {p : Nat} {th ts rmb obn pk : Int} {sd : Int64} (hG : injG G) (hN : G.2.1 = 72) (h55 : c 55 = ob9 G th ts rmb obn sd 0 pk) (hNx : ∃ F, c 70 = aI G 321 F) (hWw : Ww G c wl) (hXG : XG wl) (hp : p + 1 < wl.length) (h0 : 1000000 ≤ wl.getD p 0) (h1 : 0 ≤ wl.getD (p + 1) 0 ∧ wl.getD (p + 1) 0 < 310) : AMet l G yX9_apply cX9_apply 12 (none) (rmR 3 76) [.ref (G.1 55), .int (zI 3), .int (zI ((p : Nat) : Int))] c (Qv (fun c' => AX G c' th ts rmb obn sd pk (rwX wl p 3) ∧ (∀ k, k ≠ 55 → k ≠ 70 → c' k = c k))) := by
  refine AMet.of (vl := [some (.ref (G.1 55)), some (.int (zI 3)), some (.int (zI ((p : Nat) : Int)))]) (by decide) hG (Nat.le_of_ble_eq_true rfl) rfl ?_
  intro K X
  have X : Fx l G K cX9_apply 12 RX9 (none) (rmR 3 76) := X
  obtain ⟨F7, h70⟩ := hNx
  obtain ⟨hwl, F, h69, hWS, hWF⟩ := (id hWw : Ww G c wl)
  have ht0 := hXG.ta (k := p) (by omega)
  have ht1 := hXG.ta (k := p + 1) (by omega)
  have eE0 := bh_en0 hp
  have hBl := bh_le (l := wl) (s := p) 1 (by omega)
  have hEl := bh_le (l := wl) (s := p + 1) 1 (by omega)
  have s1 := ent_str hXG hp h0
  have nm0 := hXG.xb.num (k := p) (by omega) h0
  have eE : bh wl (bh wl (p + 1) 1) (kn (wl.getD p 0)) = (bh wl p 1) := s1.2.1.symm
  have hEB : (bh wl (p + 1) 1) ≤ (bh wl p 1) := by rw [← eE]; exact bh_ge _ _ _
  rw [show prt (wl.getD (p + 1) 0) = 0 from by unfold prt; rw [if_neg (by omega), if_neg (by omega), if_neg (by omega)], bh_0] at eE0
  refine A_aload_n (q := 1) X dX9_apply_0 rfl rfl ?_
  refine A_getf (q := 4) X fX9_53 dX9_apply_1 (by omega) h55 rfl rfl ?_
  refine A_sipush (q := 7) X dX9_apply_4 (by decide) rfl ?_
  refine A_iconst (q := 8) X dX9_apply_7 rfl ?_
  refine A_iast (q := 9) (h := 70) 320 X dX9_apply_8 (by omega) h70 (by omega) (by omega) (by decide) rfl ?_
  have hA0 : AX G (va_up c 70 (aI G 321 (va_up F7 320 0))) th ts rmb obn sd pk [] := ⟨0, lk_ne (by decide) h55, ⟨_, lk_eq, fun _ => ⟨by decide, lk_eq, fun k hk => absurd hk (Nat.not_lt_zero _)⟩⟩, Or.inl rfl⟩
  refine A_aload_n (q := 10) X dX9_apply_9 rfl rfl ?_
  refine A_iconst (q := 11) X dX9_apply_10 rfl ?_
  refine A_iload_n (q := 12) X dX9_apply_11 rfl rfl ?_
  refine A_V2v (q := 15) X (c_X9_addPart (wl := wl) (i := 0) (j := (p)) hG hN hA0 (hWw.keep ((lk_ne (by omega) rfl))) (by omega) (by omega)) mX9_addPart kX9_169 dX9_apply_12 (by omega) (hA0).choose_spec.1 rfl (by decide) (Nat.le_of_ble_eq_true rfl) rfl (fun cq_2 hq_1 => ?_)
  obtain ⟨hA_3, hf_4⟩ := hq_1
  refine A_aload_n (q := 16) X dX9_apply_15 rfl rfl ?_
  refine A_getf (q := 19) X fX9_50 dX9_apply_16 (by omega) hA_3.choose_spec.1 rfl rfl ?_
  refine A_iload_n (q := 20) X dX9_apply_19 rfl rfl ?_
  refine A_S2i (q := 23) X (c_endW (p := (p)) hG hN (hWw.keep (((hf_4 69 (by omega) (by omega)).trans (lk_ne (by omega) rfl)))) hXG (by omega)) mX9_end kX9_76 dX9_apply_20 (by decide) (Nat.le_of_ble_eq_true rfl) rfl (fun vq_7 cq_6 hq_5 => ?_)
  obtain ⟨rfl, hq_5⟩ := hq_5
  obtain rfl := hq_5.symm
  refine A_istore_n (q := 24) X dX9_apply_23 (by decide) (okP_s rfl rfl) rfl ?_
  refine A_aload_n (q := 25) X dX9_apply_24 rfl rfl ?_
  refine A_getf (q := 28) X fX9_50 dX9_apply_25 (by omega) hA_3.choose_spec.1 rfl rfl ?_
  refine A_iload_n (q := 29) X dX9_apply_28 rfl rfl ?_
  refine A_iald (q := 30) (h := 69) (p) X dX9_apply_29 (by omega) ((hf_4 _ (by omega) (by omega)).trans (lk_ne (by omega) h69)) (by omega) (by omega) (by decide) rfl ?_
  rw [hWF (p) (by omega)]
  refine A_S1i (q := 33) X (c_X9_parts hG (by omega) (by omega)) mX9_parts kX9_64 dX9_apply_30 (by decide) (Nat.le_of_ble_eq_true rfl) rfl (fun vq_10 cq_9 hq_8 => ?_)
  obtain ⟨rfl, hq_8⟩ := hq_8
  obtain rfl := hq_8.symm
  refine A_iconst (q := 34) X dX9_apply_33 rfl ?_
  refine A_isub (q := 35) X dX9_apply_34 rfl ?_
  rw [show (((prt (wl.getD p 0)) : Nat) : Int) - 1 = (((kn (wl.getD p 0)) : Nat) : Int) from by rw [prt_c h0]; omega]
  refine A_istore (q := 37) X dX9_apply_35 (by decide) (okP_s rfl rfl) rfl ?_
  refine A_aload_n (q := 38) X dX9_apply_37 rfl rfl ?_
  refine A_getf (q := 41) X fX9_50 dX9_apply_38 (by omega) hA_3.choose_spec.1 rfl rfl ?_
  refine A_iload_n (q := 42) X dX9_apply_41 rfl rfl ?_
  refine A_iald (q := 43) (h := 69) (p) X dX9_apply_42 (by omega) ((hf_4 _ (by omega) (by omega)).trans (lk_ne (by omega) h69)) (by omega) (by omega) (by decide) rfl ?_
  rw [hWF (p) (by omega)]
  refine A_ldc (q := 45) (n := 1000000) X dX9_apply_43 nX9_63 (by decide) rfl ?_
  refine A_isub (q := 46) X dX9_apply_45 rfl ?_
  refine A_sipush (q := 49) X dX9_apply_46 (by decide) rfl ?_
  refine A_irem (q := 50) X dX9_apply_49 (by omega) (by omega) (by decide) (by decide) rfl ?_
  rw [show (wl.getD p 0 - 1000000) % 1000 = (((kh (wl.getD p 0)) : Nat) : Int) from by unfold kh; omega]
  refine A_istore (q := 52) X dX9_apply_50 (by decide) (okP_s rfl rfl) rfl ?_
  refine A_iload_n (q := 53) X dX9_apply_52 rfl rfl ?_
  refine A_iconst (q := 54) X dX9_apply_53 rfl ?_
  refine A_iadd (q := 55) X dX9_apply_54 rfl ?_
  rw [show zI (((p : Nat) : Int) + 1) = zI ((p + 1 : Nat) : Int) from congrArg zI (by omega)]
  refine A_istore (q := 57) X dX9_apply_55 (by decide) (okP_s rfl rfl) rfl ?_
  refine A_aload_n (q := 58) X dX9_apply_57 rfl rfl ?_
  refine A_getf (q := 61) X fX9_50 dX9_apply_58 (by omega) hA_3.choose_spec.1 rfl rfl ?_
  refine A_iload (q := 63) X dX9_apply_61 rfl rfl ?_
  refine A_S2i (q := 66) X (c_endW (p := ((p + 1))) hG hN (hWw.keep (((hf_4 69 (by omega) (by omega)).trans (lk_ne (by omega) rfl)))) hXG (by omega)) mX9_end kX9_76 dX9_apply_63 (by decide) (Nat.le_of_ble_eq_true rfl) rfl (fun vq_13 cq_12 hq_11 => ?_)
  obtain ⟨rfl, hq_11⟩ := hq_11
  obtain rfl := hq_11.symm
  refine A_istore (q := 68) X dX9_apply_66 (by decide) (okP_s rfl rfl) rfl ?_
  refine A_iload_n (q := 69) X dX9_apply_68 rfl rfl ?_
  refine A_tableIn (q := 279) (off := 210) X dX9_apply_69 (by decide) (by decide) (by decide) rfl rfl ?_
  refine A_aload_n (q := 280) X dX9_apply_279 rfl rfl ?_
  refine A_getf (q := 283) X fX9_50 dX9_apply_280 (by omega) hA_3.choose_spec.1 rfl rfl ?_
  refine A_iload (q := 285) X dX9_apply_283 rfl rfl ?_
  refine A_iald (q := 286) (h := 69) ((p + 1)) X dX9_apply_285 (by omega) ((hf_4 _ (by omega) (by omega)).trans (lk_ne (by omega) h69)) (by omega) (by omega) (by decide) rfl ?_
  rw [hWF ((p + 1)) (by omega)]
  refine A_istore (q := 288) X dX9_apply_286 (by decide) (okP_n rfl) rfl ?_
  refine A_iload (q := 290) X dX9_apply_288 rfl rfl ?_
  refine A_iload (q := 292) X dX9_apply_290 rfl rfl ?_
  refine A_icmp_ge (q := 295) (t := 344) X dX9_apply_292 (by omega) (by omega) rfl rfl (fun hb292 => ?_) (fun hb292 => ?_)
  · refine A_aload_n (q := 345) X dX9_apply_344 rfl rfl ?_
    refine A_iload (q := 347) X dX9_apply_345 rfl rfl ?_
    refine A_iload (q := 349) X dX9_apply_347 rfl rfl ?_
    refine A_isub (q := 350) X dX9_apply_349 rfl ?_
    refine A_iload (q := 352) X dX9_apply_350 rfl rfl ?_
    refine A_iadd (q := 353) X dX9_apply_352 rfl ?_
    refine A_V1v (q := 356) X (c_X9_add (t := (((wl.getD ((p + 1)) 0) - (((kn (wl.getD p 0)) : Nat) : Int)) + (((kh (wl.getD p 0)) : Nat) : Int))) hG hN hA_3) mX9_add kX9_165 dX9_apply_353 (by omega) hA_3.choose_spec.1 rfl (by decide) (Nat.le_of_ble_eq_true rfl) rfl (fun cq_15 hq_14 => ?_)
    obtain ⟨hA_16, hf_17⟩ := hq_14
    refine A_goto (q := 369) X dX9_apply_356 rfl ?_
    refine AW.loc (sS rfl (sN (sN (sS rfl (sN (sN (sN (sN (sN (sN (sN (sN sE)))))))))))) (AW.mono (tl_X9_apply (b := (bh wl p 1)) X hG hN hA_16 (hWw.keep (((hf_17 69 (by omega) (by omega)).trans ((hf_4 69 (by omega) (by omega)).trans (lk_ne (by omega) rfl))))) hBl (fun k n0 n1 => ((hf_17 k (by omega) (by omega)).trans ((hf_4 k (by omega) (by omega)).trans (lk_ne (by omega) rfl))))) ?_)
    rintro r9 c9 ⟨hr9, hA9, hf9⟩
    exact ⟨hr9, AX_eq hA9 (by refine rw_of_r ?_; unfold pcR; rw [if_neg (by decide), if_neg (by decide), if_neg (by decide), if_pos rfl]; unfold pcK; rw [if_neg (by omega)]), hf9⟩
  · obtain ⟨ix, hix⟩ : ∃ ix : Nat, wl.getD (p + 1) 0 = ((ix : Nat) : Int) := ⟨(wl.getD (p + 1) 0).toNat, by omega⟩
    have e33 : ∀ z : Int, z = wl.getD (p + 1) 0 → zI z = zI ((ix : Nat) : Int) := fun z hz => by rw [hz, hix]
    rw [e33 _ rfl]
    refine A_iload (q := 297) X dX9_apply_295 rfl rfl ?_
    refine A_istore (q := 299) X dX9_apply_297 (by decide) (okP_s rfl rfl) rfl ?_
    refine A_iconst (q := 300) X dX9_apply_299 rfl ?_
    refine A_istore (q := 302) X dX9_apply_300 (by decide) (okP_s rfl rfl) rfl ?_
    refine AW.loc (sS rfl (sN (sN (sS rfl (sN (sN (sN (sN (sN (sS rfl (sS (by rw [bh_0]; rfl) (sZ rfl rfl sE)))))))))))) (AW.mono (lpK_X9_apply (ix := ix) X hG hN hXG hp h0 eE0 hix (by omega) (hWw.keep (((hf_4 69 (by omega) (by omega)).trans (lk_ne (by omega) rfl)))) hA_3 _ 0 (Nat.lt_succ_self _) (Nat.zero_le _)) ?_)
    rintro r9 c9 ⟨hr9, hA9, hf9⟩
    exact ⟨hr9, hA9, fun k n0 n1 => (hf9 k n0 n1).trans (((hf_4 k (by omega) (by omega)).trans (lk_ne (by omega) rfl)))⟩
set_option maxRecDepth 100000 in
set_option maxHeartbeats 4000000 in
theorem ap4_apply {l : Launch} {G : Gm} {c : HP} {wl : List Int} {p : Nat} {th ts rmb obn pk : Int} {sd : Int64} (hG : injG G) (hN : G.2.1 = 72) (h55 : c 55 = ob9 G th ts rmb obn sd 0 pk) (hNx : ∃ F, c 70 = aI G 321 F) (hWw : Ww G c wl) (hXG : XG wl) (hp : p + 1 < wl.length) (h0 : 1000000 ≤ wl.getD p 0) (h1 : 1000000 ≤ wl.getD (p + 1) 0) : AMet l G yX9_apply cX9_apply 12 (none) (rmR 3 76) [.ref (G.1 55), .int (zI 4), .int (zI ((p : Nat) : Int))] c (Qv (fun c' => AX G c' th ts rmb obn sd pk (rwX wl p 4) ∧ (∀ k, k ≠ 55 → k ≠ 70 → c' k = c k))) := by
  refine AMet.of (vl := [some (.ref (G.1 55)), some (.int (zI 4)), some (.int (zI ((p : Nat) : Int)))]) (by decide) hG (Nat.le_of_ble_eq_true rfl) rfl ?_
  intro K X
  have X : Fx l G K cX9_apply 12 RX9 (none) (rmR 3 76) := X
  obtain ⟨F7, h70⟩ := hNx
  obtain ⟨hwl, F, h69, hWS, hWF⟩ := (id hWw : Ww G c wl)
  have ht0 := hXG.ta (k := p) (by omega)
  have ht1 := hXG.ta (k := p + 1) (by omega)
  have eE0 := bh_en0 hp
  have hBl := bh_le (l := wl) (s := p) 1 (by omega)
  have hEl := bh_le (l := wl) (s := p + 1) 1 (by omega)
  have s1 := ent_str hXG hp h0
  have nm0 := hXG.xb.num (k := p) (by omega) h0
  have eE : bh wl (bh wl (p + 1) 1) (kn (wl.getD p 0)) = (bh wl p 1) := s1.2.1.symm
  have hEB : (bh wl (p + 1) 1) ≤ (bh wl p 1) := by rw [← eE]; exact bh_ge _ _ _
  refine A_aload_n (q := 1) X dX9_apply_0 rfl rfl ?_
  refine A_getf (q := 4) X fX9_53 dX9_apply_1 (by omega) h55 rfl rfl ?_
  refine A_sipush (q := 7) X dX9_apply_4 (by decide) rfl ?_
  refine A_iconst (q := 8) X dX9_apply_7 rfl ?_
  refine A_iast (q := 9) (h := 70) 320 X dX9_apply_8 (by omega) h70 (by omega) (by omega) (by decide) rfl ?_
  have hA0 : AX G (va_up c 70 (aI G 321 (va_up F7 320 0))) th ts rmb obn sd pk [] := ⟨0, lk_ne (by decide) h55, ⟨_, lk_eq, fun _ => ⟨by decide, lk_eq, fun k hk => absurd hk (Nat.not_lt_zero _)⟩⟩, Or.inl rfl⟩
  refine A_aload_n (q := 10) X dX9_apply_9 rfl rfl ?_
  refine A_iconst (q := 11) X dX9_apply_10 rfl ?_
  refine A_iload_n (q := 12) X dX9_apply_11 rfl rfl ?_
  refine A_V2v (q := 15) X (c_X9_addPart (wl := wl) (i := 0) (j := (p)) hG hN hA0 (hWw.keep ((lk_ne (by omega) rfl))) (by omega) (by omega)) mX9_addPart kX9_169 dX9_apply_12 (by omega) (hA0).choose_spec.1 rfl (by decide) (Nat.le_of_ble_eq_true rfl) rfl (fun cq_2 hq_1 => ?_)
  obtain ⟨hA_3, hf_4⟩ := hq_1
  refine A_aload_n (q := 16) X dX9_apply_15 rfl rfl ?_
  refine A_getf (q := 19) X fX9_50 dX9_apply_16 (by omega) hA_3.choose_spec.1 rfl rfl ?_
  refine A_iload_n (q := 20) X dX9_apply_19 rfl rfl ?_
  refine A_S2i (q := 23) X (c_endW (p := (p)) hG hN (hWw.keep (((hf_4 69 (by omega) (by omega)).trans (lk_ne (by omega) rfl)))) hXG (by omega)) mX9_end kX9_76 dX9_apply_20 (by decide) (Nat.le_of_ble_eq_true rfl) rfl (fun vq_7 cq_6 hq_5 => ?_)
  obtain ⟨rfl, hq_5⟩ := hq_5
  obtain rfl := hq_5.symm
  refine A_istore_n (q := 24) X dX9_apply_23 (by decide) (okP_s rfl rfl) rfl ?_
  refine A_aload_n (q := 25) X dX9_apply_24 rfl rfl ?_
  refine A_getf (q := 28) X fX9_50 dX9_apply_25 (by omega) hA_3.choose_spec.1 rfl rfl ?_
  refine A_iload_n (q := 29) X dX9_apply_28 rfl rfl ?_
  refine A_iald (q := 30) (h := 69) (p) X dX9_apply_29 (by omega) ((hf_4 _ (by omega) (by omega)).trans (lk_ne (by omega) h69)) (by omega) (by omega) (by decide) rfl ?_
  rw [hWF (p) (by omega)]
  refine A_S1i (q := 33) X (c_X9_parts hG (by omega) (by omega)) mX9_parts kX9_64 dX9_apply_30 (by decide) (Nat.le_of_ble_eq_true rfl) rfl (fun vq_10 cq_9 hq_8 => ?_)
  obtain ⟨rfl, hq_8⟩ := hq_8
  obtain rfl := hq_8.symm
  refine A_iconst (q := 34) X dX9_apply_33 rfl ?_
  refine A_isub (q := 35) X dX9_apply_34 rfl ?_
  rw [show (((prt (wl.getD p 0)) : Nat) : Int) - 1 = (((kn (wl.getD p 0)) : Nat) : Int) from by rw [prt_c h0]; omega]
  refine A_istore (q := 37) X dX9_apply_35 (by decide) (okP_s rfl rfl) rfl ?_
  refine A_aload_n (q := 38) X dX9_apply_37 rfl rfl ?_
  refine A_getf (q := 41) X fX9_50 dX9_apply_38 (by omega) hA_3.choose_spec.1 rfl rfl ?_
  refine A_iload_n (q := 42) X dX9_apply_41 rfl rfl ?_
  refine A_iald (q := 43) (h := 69) (p) X dX9_apply_42 (by omega) ((hf_4 _ (by omega) (by omega)).trans (lk_ne (by omega) h69)) (by omega) (by omega) (by decide) rfl ?_
  rw [hWF (p) (by omega)]
  refine A_ldc (q := 45) (n := 1000000) X dX9_apply_43 nX9_63 (by decide) rfl ?_
  refine A_isub (q := 46) X dX9_apply_45 rfl ?_
  refine A_sipush (q := 49) X dX9_apply_46 (by decide) rfl ?_
  refine A_irem (q := 50) X dX9_apply_49 (by omega) (by omega) (by decide) (by decide) rfl ?_
  rw [show (wl.getD p 0 - 1000000) % 1000 = (((kh (wl.getD p 0)) : Nat) : Int) from by unfold kh; omega]
  refine A_istore (q := 52) X dX9_apply_50 (by decide) (okP_s rfl rfl) rfl ?_
  refine A_iload_n (q := 53) X dX9_apply_52 rfl rfl ?_
  refine A_iconst (q := 54) X dX9_apply_53 rfl ?_
  refine A_iadd (q := 55) X dX9_apply_54 rfl ?_
  rw [show zI (((p : Nat) : Int) + 1) = zI ((p + 1 : Nat) : Int) from congrArg zI (by omega)]
  refine A_istore (q := 57) X dX9_apply_55 (by decide) (okP_s rfl rfl) rfl ?_
  refine A_aload_n (q := 58) X dX9_apply_57 rfl rfl ?_
  refine A_getf (q := 61) X fX9_50 dX9_apply_58 (by omega) hA_3.choose_spec.1 rfl rfl ?_
  refine A_iload (q := 63) X dX9_apply_61 rfl rfl ?_
  refine A_S2i (q := 66) X (c_endW (p := ((p + 1))) hG hN (hWw.keep (((hf_4 69 (by omega) (by omega)).trans (lk_ne (by omega) rfl)))) hXG (by omega)) mX9_end kX9_76 dX9_apply_63 (by decide) (Nat.le_of_ble_eq_true rfl) rfl (fun vq_13 cq_12 hq_11 => ?_)
  obtain ⟨rfl, hq_11⟩ := hq_11
  obtain rfl := hq_11.symm
  refine A_istore (q := 68) X dX9_apply_66 (by decide) (okP_s rfl rfl) rfl ?_
  refine A_iload_n (q := 69) X dX9_apply_68 rfl rfl ?_
  refine A_tableOut (q := 359) X dX9_apply_69 (by decide) (by decide) rfl ?_
  refine A_aload_n (q := 360) X dX9_apply_359 rfl rfl ?_
  refine A_iload_n (q := 361) X dX9_apply_360 rfl rfl ?_
  refine A_iload (q := 363) X dX9_apply_361 rfl rfl ?_
  refine A_iload (q := 365) X dX9_apply_363 rfl rfl ?_
  refine A_iload_n (q := 366) X dX9_apply_365 rfl rfl ?_
  refine A_V4v (q := 369) X (c_X9_merge hG hN hXG hp h0 h1 hA_3 (hWw.keep (((hf_4 69 (by omega) (by omega)).trans (lk_ne (by omega) rfl))))) mX9_merge kX9_175 dX9_apply_366 (by omega) (hA_3).choose_spec.1 rfl (by decide) (Nat.le_of_ble_eq_true rfl) rfl (fun cq_15 hq_14 => ?_)
  obtain ⟨hA_16, hf_17⟩ := hq_14
  refine AW.loc (sS rfl (sN (sN (sS rfl (sN (sN (sN (sN (sN (sN (sN (sN sE)))))))))))) (AW.mono (tl_X9_apply (b := (bh wl p 1)) X hG hN hA_16 (hWw.keep (((hf_17 69 (by omega) (by omega)).trans ((hf_4 69 (by omega) (by omega)).trans (lk_ne (by omega) rfl))))) hBl (fun k n0 n1 => ((hf_17 k (by omega) (by omega)).trans ((hf_4 k (by omega) (by omega)).trans (lk_ne (by omega) rfl))))) ?_)
  rintro r9 c9 ⟨hr9, hA9, hf9⟩
  exact ⟨hr9, AX_eq hA9 (by refine rw_of_r ?_; unfold pcR; rw [if_neg (by decide), if_neg (by decide), if_neg (by decide), if_neg (by decide)]), hf9⟩
theorem c_X9_apply {l : Launch} {G : Gm} {c : HP} {wl : List Int} {p : Nat} {r : Int} {th ts rmb obn pk : Int} {sd : Int64} (hG : injG G) (hN : G.2.1 = 72) (h55 : c 55 = ob9 G th ts rmb obn sd 0 pk) (hNx : ∃ F, c 70 = aI G 321 F) (hWw : Ww G c wl) (hXG : XG wl) (hrc : rlC wl p r) : AMet l G yX9_apply cX9_apply 12 (none) (rmR 3 76) [.ref (G.1 55), .int (zI r), .int (zI ((p : Nat) : Int))] c (Qv (fun c' => AX G c' th ts rmb obn sd pk (rwX wl p r) ∧ (∀ k, k ≠ 55 → k ≠ 70 → c' k = c k))) := by
  obtain ⟨hp, ⟨rfl, h0, h1⟩ | ⟨rfl, h0, h1⟩ | ⟨rfl, h0, h1⟩ | ⟨rfl, h0, h1, h2⟩ | ⟨rfl, h0, h1⟩⟩ := hrc
  · exact ap0_apply hG hN h55 hNx hWw hXG hp h0 h1
  · exact ap1_apply hG hN h55 hNx hWw hXG hp h0 h1
  · exact ap2_apply hG hN h55 hNx hWw hXG hp h0 h1
  · exact ap3_apply hG hN h55 hNx hWw hXG hp h0 ⟨h1, h2⟩
  · exact ap4_apply hG hN h55 hNx hWw hXG hp h0 h1
