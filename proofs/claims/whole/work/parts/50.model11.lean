/-! THE MODEL's calls: step, run, append -/
set_option maxRecDepth 100000 in
set_option maxHeartbeats 4000000 in
theorem c_X9_step {l : Launch} {G : Gm} {c : HP} {tm x : List Int} {hs : List (List Int)} {s0 s1 : List Int} {o : List (Int × Int)} {sd : Int64} {s : Int} (hG : injG G) (hsr : rg s) (hW : WM G c (tm, x, hs, s0, s1, o, sd)) : AMet l G yX9_step cX9_step 3 ((some .int)) (rmR 4 92) [.ref (G.1 55), .int (zI s)] c (Qi (fun v c' => v = zI (fStep s (tm, x, hs, s0, s1, o, sd)).1 ∧ WM G c' (fStep s (tm, x, hs, s0, s1, o, sd)).2 ∧ (∀ k, k < 55 → c' k = c k))) := by
  refine AMet.of (vl := [some (.ref (G.1 55)), some (.int (zI s))]) (by decide) hG (Nat.le_of_ble_eq_true rfl) rfl ?_
  intro K X
  have X : Fx l G K cX9_step 3 RX9 ((some .int)) (rmR 4 92) := X
  obtain ⟨hN, ⟨th, tw, pk, h55, htw⟩, hX, hT, hgd, hR8, hR9, hO, hH, hV, hB, hSc, hWd⟩ := hW
  dsimp only at h55 hX hT hgd hH hV hB
  have hl0 := hT.len
  have hxl := hX.1
  have hhl := hH.1
  have hol := hB.1
  refine A_aload_n (q := 1) X dX9_step_0 rfl rfl ?_
  refine A_iconst (q := 2) X dX9_step_1 rfl ?_
  refine A_putf (q := 5) X pX9_59 dX9_step_2 (by omega) h55 (Nat.le_of_ble_eq_true rfl) rfl rfl rfl ?_
  refine A_iload_n (q := 6) X dX9_step_5 rfl rfl ?_
  refine A_i2l (q := 7) X dX9_step_6 rfl ?_
  refine A_lconst (q := 8) (v := 0) X dX9_step_7 rfl rfl ?_
  refine A_ldc2 (q := 11) X dX9_step_8 nX9_135 rfl ?_
  refine A_S3i (q := 14) X (c_inZ (a := s) (b := 0) (d := 3) hG rfl (by decide) (by decide) (by omega) (by omega) (by omega)) mX9_in kX9_114 dX9_step_11 (by decide) (Nat.le_of_ble_eq_true rfl) rfl (fun vq_3 cq_2 hq_1 => ?_)
  obtain ⟨rfl, hq_1⟩ := hq_1
  obtain rfl := hq_1.symm
  refine A_bne (q := 17) (t := 20) X dX9_step_14 rfl rfl (fun hb14 => ?_) (fun hb14 => ?_)
  · refine A_aload_n (q := 21) X dX9_step_20 rfl rfl ?_
    refine A_getf (q := 24) X fX9_13 dX9_step_21 (by omega) lk_eq rfl rfl ?_
    refine A_iload_n (q := 25) X dX9_step_24 rfl rfl ?_
    refine A_S2i (q := 28) X (c_X9_choose hG (hT.keep (lk_ne (by omega) rfl)) hgd (by omega)) mX9_choose kX9_94 dX9_step_25 (by decide) (Nat.le_of_ble_eq_true rfl) rfl (fun vq_6 cq_5 hq_4 => ?_)
    obtain ⟨rfl, hq_4⟩ := hq_4
    obtain rfl := hq_4.symm
    refine A_istore_n (q := 29) X dX9_step_28 (by decide) (okP_s rfl rfl) rfl ?_
    have hchr : -9 ≤ chz tm s ∧ chz tm s ≤ 1000 := by rcases chz_cases tm s with h | ⟨k, h1, h2, -⟩ <;> omega
    refine A_iload_n (q := 30) X dX9_step_29 rfl rfl ?_
    refine A_bipush (q := 32) X dX9_step_30 (by decide) rfl ?_
    refine A_icmp_ne (q := 35) (t := 38) X dX9_step_32 (by omega) (by decide) rfl rfl (fun hb32 => ?_) (fun hb32 => ?_)
    · obtain ⟨kk, hk1, hch, hrk⟩ : ∃ kk : Nat, kk < tm.length ∧ chz tm s = ((kk : Nat) : Int) ∧ rx tm kk := by rcases chz_cases tm s with h | h; exact absurd h hb32; exact h
      rw [hch]
      refine A_aload_n (q := 39) X dX9_step_38 rfl rfl ?_
      refine A_aload_n (q := 40) X dX9_step_39 rfl rfl ?_
      refine A_getf (q := 43) X fX9_13 dX9_step_40 (by omega) lk_eq rfl rfl ?_
      refine A_iload_n (q := 44) X dX9_step_43 rfl rfl ?_
      refine A_V2i (q := 47) X (c_X9_contract hG hN (lk_eq) (by decide) (hT.keep (lk_ne (by omega) rfl)) hgd hrk (hO.keep (lk_ne (by omega) rfl)) (hSc.keep (lk_ne (by omega) rfl) (lk_ne (by omega) rfl) (lk_ne (by omega) rfl))) mX9_contract kX9_97 dX9_step_44 (by omega) lk_eq rfl (by decide) (Nat.le_of_ble_eq_true rfl) rfl (fun vq_9 cq_8 hq_7 => ?_)
      obtain ⟨rfl, hPo, hSc2, hfc⟩ := hq_7
      refine A_beq (q := 50) (t := 57) X dX9_step_47 rfl rfl (fun hb47 => ?_) (fun hb47 => ?_)
      · refine A_bipush (q := 59) X dX9_step_57 (by decide) rfl ?_
        have es : stepT s tm = none := by unfold stepT; rw [hch, ctO_rx hrk, if_neg hb47]
        have e9 : fStep s (tm, x, hs, s0, s1, o, sd) = (-4, (tm, x, hs, s0, s1, o, sd)) := by unfold fStep; dsimp only; rw [if_pos (by omega), if_neg (by omega), es]
        exact A_ireturn X dX9_step_59 ⟨by rw [e9], by rw [e9]; exact ⟨hN, ⟨_, _, _, ((hfc _ (by omega) (by omega) (by omega) (by omega)).trans lk_eq), htw⟩, (hX.keep ((hfc 56 (by omega) (by omega) (by omega) (by omega)).trans (lk_ne (by omega) rfl))), (hT.keep ((hfc 57 (by omega) (by omega) (by omega) (by omega)).trans (lk_ne (by omega) rfl))), hgd, (hR8.keep ((hfc 58 (by omega) (by omega) (by omega) (by omega)).trans (lk_ne (by omega) rfl))), (hR9.keep ((hfc 59 (by omega) (by omega) (by omega) (by omega)).trans (lk_ne (by omega) rfl))), hPo.2.choose_spec.mr, (hH.keep ((hfc 61 (by omega) (by omega) (by omega) (by omega)).trans (lk_ne (by omega) rfl))), (hV.keep ((hfc 62 (by omega) (by omega) (by omega) (by omega)).trans (lk_ne (by omega) rfl)) ((hfc 63 (by omega) (by omega) (by omega) (by omega)).trans (lk_ne (by omega) rfl))), (hB.keep ((hfc 64 (by omega) (by omega) (by omega) (by omega)).trans (lk_ne (by omega) rfl)) ((hfc 65 (by omega) (by omega) (by omega) (by omega)).trans (lk_ne (by omega) rfl))), hSc2, (hWd.keep ((hfc 69 (by omega) (by omega) (by omega) (by omega)).trans (lk_ne (by omega) rfl)) ((hfc 70 (by omega) (by omega) (by omega) (by omega)).trans (lk_ne (by omega) rfl)) ((hfc 71 (by omega) (by omega) (by omega) (by omega)).trans (lk_ne (by omega) rfl)))⟩, (fun k n0 => ((hfc k (by omega) (by omega) (by omega) (by omega)).trans (lk_ne (by omega) rfl)))⟩
      · refine A_aload_n (q := 51) X dX9_step_50 rfl rfl ?_
        have hW9 : WM G _ (tm, x, hs, s0, s1, o, sd) := ⟨hN, ⟨_, _, _, ((hfc _ (by omega) (by omega) (by omega) (by omega)).trans lk_eq), htw⟩, (hX.keep ((hfc 56 (by omega) (by omega) (by omega) (by omega)).trans (lk_ne (by omega) rfl))), (hT.keep ((hfc 57 (by omega) (by omega) (by omega) (by omega)).trans (lk_ne (by omega) rfl))), hgd, (hR8.keep ((hfc 58 (by omega) (by omega) (by omega) (by omega)).trans (lk_ne (by omega) rfl))), (hR9.keep ((hfc 59 (by omega) (by omega) (by omega) (by omega)).trans (lk_ne (by omega) rfl))), hPo.2.choose_spec.mr, (hH.keep ((hfc 61 (by omega) (by omega) (by omega) (by omega)).trans (lk_ne (by omega) rfl))), (hV.keep ((hfc 62 (by omega) (by omega) (by omega) (by omega)).trans (lk_ne (by omega) rfl)) ((hfc 63 (by omega) (by omega) (by omega) (by omega)).trans (lk_ne (by omega) rfl))), (hB.keep ((hfc 64 (by omega) (by omega) (by omega) (by omega)).trans (lk_ne (by omega) rfl)) ((hfc 65 (by omega) (by omega) (by omega) (by omega)).trans (lk_ne (by omega) rfl))), hSc2, (hWd.keep ((hfc 69 (by omega) (by omega) (by omega) (by omega)).trans (lk_ne (by omega) rfl)) ((hfc 70 (by omega) (by omega) (by omega) (by omega)).trans (lk_ne (by omega) rfl)) ((hfc 71 (by omega) (by omega) (by omega) (by omega)).trans (lk_ne (by omega) rfl)))⟩
        refine A_V0i (q := 54) X (c_X9_commit hG hW9 (hPo.1 hb47) (Gd_ctr hgd hrk hb47)) mX9_commit kX9_140 dX9_step_51 (by omega) ((hfc _ (by omega) (by omega) (by omega) (by omega)).trans lk_eq) rfl (by decide) (Nat.le_of_ble_eq_true rfl) rfl (fun vq_12 cq_11 hq_10 => ?_)
        obtain ⟨rfl, hWc, hfc9⟩ := hq_10
        refine A_goto (q := 59) X dX9_step_54 rfl ?_
        have es : stepT s tm = some (ctr tm kk) := by unfold stepT; rw [hch, ctO_rx hrk, if_pos hb47]
        have e9 : fStep s (tm, x, hs, s0, s1, o, sd) = ((((ctr tm kk).length : Nat) : Int), ((ctr tm kk), x, psh hs tm, s0, s1, o, sd)) := by unfold fStep; dsimp only; rw [if_pos (by omega), if_neg (by omega), es]; rfl
        exact A_ireturn X dX9_step_59 ⟨by rw [e9], by rw [e9]; exact hWc, (fun k n0 => (hfc9 k n0).trans (((hfc k (by omega) (by omega) (by omega) (by omega)).trans (lk_ne (by omega) rfl))))⟩
    · refine A_bipush (q := 37) X dX9_step_35 (by decide) rfl ?_
      have e9 : fStep s (tm, x, hs, s0, s1, o, sd) = (-3, (tm, x, hs, s0, s1, o, sd)) := by unfold fStep; dsimp only; rw [if_pos (by omega), if_pos (by omega)]
      exact A_ireturn X dX9_step_37 ⟨by rw [e9], by rw [e9]; exact ⟨hN, ⟨_, _, _, lk_eq, htw⟩, (hX.keep (lk_ne (by omega) rfl)), (hT.keep (lk_ne (by omega) rfl)), hgd, (hR8.keep (lk_ne (by omega) rfl)), (hR9.keep (lk_ne (by omega) rfl)), (hO.keep (lk_ne (by omega) rfl)), (hH.keep (lk_ne (by omega) rfl)), (hV.keep (lk_ne (by omega) rfl) (lk_ne (by omega) rfl)), (hB.keep (lk_ne (by omega) rfl) (lk_ne (by omega) rfl)), (hSc.keep (lk_ne (by omega) rfl) (lk_ne (by omega) rfl) (lk_ne (by omega) rfl)), (hWd.keep (lk_ne (by omega) rfl) (lk_ne (by omega) rfl) (lk_ne (by omega) rfl))⟩, (fun k n0 => (lk_ne (by omega) rfl))⟩
  · refine A_bipush (q := 19) X dX9_step_17 (by decide) rfl ?_
    have e9 : fStep s (tm, x, hs, s0, s1, o, sd) = (-2, (tm, x, hs, s0, s1, o, sd)) := by unfold fStep; dsimp only; rw [if_neg (by omega)]
    exact A_ireturn X dX9_step_19 ⟨by rw [e9], by rw [e9]; exact ⟨hN, ⟨_, _, _, lk_eq, htw⟩, (hX.keep (lk_ne (by omega) rfl)), (hT.keep (lk_ne (by omega) rfl)), hgd, (hR8.keep (lk_ne (by omega) rfl)), (hR9.keep (lk_ne (by omega) rfl)), (hO.keep (lk_ne (by omega) rfl)), (hH.keep (lk_ne (by omega) rfl)), (hV.keep (lk_ne (by omega) rfl) (lk_ne (by omega) rfl)), (hB.keep (lk_ne (by omega) rfl) (lk_ne (by omega) rfl)), (hSc.keep (lk_ne (by omega) rfl) (lk_ne (by omega) rfl) (lk_ne (by omega) rfl)), (hWd.keep (lk_ne (by omega) rfl) (lk_ne (by omega) rfl) (lk_ne (by omega) rfl))⟩, (fun k n0 => (lk_ne (by omega) rfl))⟩
set_option maxRecDepth 100000 in
set_option maxHeartbeats 4000000 in
theorem c_X9_run {l : Launch} {G : Gm} {c : HP} {tm x : List Int} {hs : List (List Int)} {s0 s1 : List Int} {o : List (Int × Int)} {sd : Int64} {s n : Int} (hG : injG G) (hsr : rg s) (hnr : rg n) (hW : WM G c (tm, x, hs, s0, s1, o, sd)) : AMet l G yX9_run cX9_run 3 ((some .int)) (rmR 5 117) [.ref (G.1 55), .int (zI s), .int (zI n)] c (Qi (fun v c' => v = zI (fRun s n (tm, x, hs, s0, s1, o, sd)).1 ∧ WM G c' (fRun s n (tm, x, hs, s0, s1, o, sd)).2 ∧ (∀ k, k < 55 → c' k = c k))) := by
  refine AMet.of (vl := [some (.ref (G.1 55)), some (.int (zI s)), some (.int (zI n))]) (by decide) hG (Nat.le_of_ble_eq_true rfl) rfl ?_
  intro K X
  have X : Fx l G K cX9_run 3 RX9 ((some .int)) (rmR 5 117) := X
  obtain ⟨hN, ⟨th, tw, pk, h55, htw⟩, hX, hT, hgd, hR8, hR9, hO, hH, hV, hB, hSc, hWd⟩ := hW
  dsimp only at h55 hX hT hgd hH hV hB
  have hl0 := hT.len
  have hxl := hX.1
  have hhl := hH.1
  have hol := hB.1
  have hH0 := hH
  obtain ⟨-, hHg, FH, h61, hHm⟩ := hH0
  refine A_aload_n (q := 1) X dX9_run_0 rfl rfl ?_
  refine A_iconst (q := 2) X dX9_run_1 rfl ?_
  refine A_putf (q := 5) X pX9_59 dX9_run_2 (by omega) h55 (Nat.le_of_ble_eq_true rfl) rfl rfl rfl ?_
  refine A_iload_n (q := 6) X dX9_run_5 rfl rfl ?_
  refine A_i2l (q := 7) X dX9_run_6 rfl ?_
  refine A_lconst (q := 8) (v := 0) X dX9_run_7 rfl rfl ?_
  refine A_ldc2 (q := 11) X dX9_run_8 nX9_135 rfl ?_
  refine A_S3i (q := 14) X (c_inZ (a := s) (b := 0) (d := 3) hG rfl (by decide) (by decide) (by omega) (by omega) (by omega)) mX9_in kX9_114 dX9_run_11 (by decide) (Nat.le_of_ble_eq_true rfl) rfl (fun vq_3 cq_2 hq_1 => ?_)
  obtain ⟨rfl, hq_1⟩ := hq_1
  obtain rfl := hq_1.symm
  refine A_beq (q := 17) (t := 29) X dX9_run_14 rfl rfl (fun hb14 => ?_) (fun hb14 => ?_)
  · refine A_bipush (q := 31) X dX9_run_29 (by decide) rfl ?_
    have e9 : fRun s n (tm, x, hs, s0, s1, o, sd) = (-2, (tm, x, hs, s0, s1, o, sd)) := by unfold fRun; dsimp only; rw [if_neg (by omega)]
    exact A_ireturn X dX9_run_31 ⟨by rw [e9], by rw [e9]; exact ⟨hN, ⟨_, _, _, lk_eq, htw⟩, (hX.keep (lk_ne (by omega) rfl)), (hT.keep (lk_ne (by omega) rfl)), hgd, (hR8.keep (lk_ne (by omega) rfl)), (hR9.keep (lk_ne (by omega) rfl)), (hO.keep (lk_ne (by omega) rfl)), (hH.keep (lk_ne (by omega) rfl)), (hV.keep (lk_ne (by omega) rfl) (lk_ne (by omega) rfl)), (hB.keep (lk_ne (by omega) rfl) (lk_ne (by omega) rfl)), (hSc.keep (lk_ne (by omega) rfl) (lk_ne (by omega) rfl) (lk_ne (by omega) rfl)), (hWd.keep (lk_ne (by omega) rfl) (lk_ne (by omega) rfl) (lk_ne (by omega) rfl))⟩, (fun k n0 => (lk_ne (by omega) rfl))⟩
  · refine A_iload_n (q := 18) X dX9_run_17 rfl rfl ?_
    refine A_i2l (q := 19) X dX9_run_18 rfl ?_
    refine A_lconst (q := 20) (v := 1) X dX9_run_19 rfl rfl ?_
    refine A_ldc2 (q := 23) X dX9_run_20 nX9_143 rfl ?_
    refine A_S3i (q := 26) X (c_inZ (a := n) (b := 1) (d := 50) hG rfl (by decide) (by decide) (by omega) (by omega) (by omega)) mX9_in kX9_114 dX9_run_23 (by decide) (Nat.le_of_ble_eq_true rfl) rfl (fun vq_6 cq_5 hq_4 => ?_)
    obtain ⟨rfl, hq_4⟩ := hq_4
    obtain rfl := hq_4.symm
    refine A_bne (q := 29) (t := 32) X dX9_run_26 rfl rfl (fun hb26 => ?_) (fun hb26 => ?_)
    · refine A_aload_n (q := 33) X dX9_run_32 rfl rfl ?_
      refine A_V0v (q := 36) X (c_X9_remember hG hN (lk_eq) (hT.keep (lk_ne (by omega) rfl)) ((lk_ne (by omega) h61)) hHm hhl) mX9_remember kX9_137 dX9_run_33 (by omega) lk_eq rfl (by decide) (Nat.le_of_ble_eq_true rfl) rfl (fun cq_8 hq_7 => ?_)
      obtain ⟨h55r, ⟨H2, h61r, hHm2⟩, hfr⟩ := hq_7
      have hps := psh_ok (t := tm) hHg hgd
      have hH9 : Hs9 G cq_8 (psh hs tm) := ⟨hps.1, hps.2, H2, h61r, hHm2⟩
      refine A_aload_n (q := 37) X dX9_run_36 rfl rfl ?_
      refine A_aload_n (q := 38) X dX9_run_37 rfl rfl ?_
      refine A_getf (q := 41) X fX9_13 dX9_run_38 (by omega) h55r rfl rfl ?_
      refine A_iload_n (q := 42) X dX9_run_41 rfl rfl ?_
      refine A_iload_n (q := 43) X dX9_run_42 rfl rfl ?_
      rw [show zI n = zI ((n.toNat : Nat) : Int) from congrArg zI (by omega)]
      refine A_V3i (q := 46) X (c_X9_runOn (n0 := n.toNat) hG hN (h55r) (by decide) (by omega) (by omega) (hT.keep ((hfr 57 (by omega) (by omega)).trans (lk_ne (by omega) rfl))) hgd (hO.keep ((hfr 60 (by omega) (by omega)).trans (lk_ne (by omega) rfl))) (hSc.keep ((hfr 66 (by omega) (by omega)).trans (lk_ne (by omega) rfl)) ((hfr 67 (by omega) (by omega)).trans (lk_ne (by omega) rfl)) ((hfr 68 (by omega) (by omega)).trans (lk_ne (by omega) rfl)))) mX9_runOn kX9_104 dX9_run_43 (by omega) h55r rfl (by decide) (Nat.le_of_ble_eq_true rfl) rfl (fun vq_11 cq_10 hq_9 => ?_)
      obtain ⟨rfl, hTb, hO8, hSc8, hf8⟩ := hq_9
      have e9 : fRun s n (tm, x, hs, s0, s1, o, sd) = ((((runT s n.toNat tm).2 : Nat) : Int), ((runT s n.toNat tm).1, x, psh hs tm, s0, s1, o, sd)) := by unfold fRun; dsimp only; rw [if_pos (by omega)]; rfl
      exact A_ireturn X dX9_run_46 ⟨by rw [e9], by rw [e9]; exact ⟨hN, ⟨_, _, _, ((hf8 _ (by omega) (by omega) (by omega) (by omega) (by omega)).trans h55r), htw⟩, (hX.keep ((hf8 56 (by omega) (by omega) (by omega) (by omega) (by omega)).trans ((hfr 56 (by omega) (by omega)).trans (lk_ne (by omega) rfl)))), hTb, (Gd_run s n.toNat tm hgd), (hR8.keep ((hf8 58 (by omega) (by omega) (by omega) (by omega) (by omega)).trans ((hfr 58 (by omega) (by omega)).trans (lk_ne (by omega) rfl)))), (hR9.keep ((hf8 59 (by omega) (by omega) (by omega) (by omega) (by omega)).trans ((hfr 59 (by omega) (by omega)).trans (lk_ne (by omega) rfl)))), hO8, (hH9.keep ((hf8 61 (by omega) (by omega) (by omega) (by omega) (by omega)).trans rfl)), (hV.keep ((hf8 62 (by omega) (by omega) (by omega) (by omega) (by omega)).trans ((hfr 62 (by omega) (by omega)).trans (lk_ne (by omega) rfl))) ((hf8 63 (by omega) (by omega) (by omega) (by omega) (by omega)).trans ((hfr 63 (by omega) (by omega)).trans (lk_ne (by omega) rfl)))), (hB.keep ((hf8 64 (by omega) (by omega) (by omega) (by omega) (by omega)).trans ((hfr 64 (by omega) (by omega)).trans (lk_ne (by omega) rfl))) ((hf8 65 (by omega) (by omega) (by omega) (by omega) (by omega)).trans ((hfr 65 (by omega) (by omega)).trans (lk_ne (by omega) rfl)))), hSc8, (hWd.keep ((hf8 69 (by omega) (by omega) (by omega) (by omega) (by omega)).trans ((hfr 69 (by omega) (by omega)).trans (lk_ne (by omega) rfl))) ((hf8 70 (by omega) (by omega) (by omega) (by omega) (by omega)).trans ((hfr 70 (by omega) (by omega)).trans (lk_ne (by omega) rfl))) ((hf8 71 (by omega) (by omega) (by omega) (by omega) (by omega)).trans ((hfr 71 (by omega) (by omega)).trans (lk_ne (by omega) rfl))))⟩, (fun k n0 => ((hf8 k (by omega) (by omega) (by omega) (by omega) (by omega)).trans ((hfr k (by omega) (by omega)).trans (lk_ne (by omega) rfl))))⟩
    · refine A_bipush (q := 31) X dX9_run_29 (by decide) rfl ?_
      have e9 : fRun s n (tm, x, hs, s0, s1, o, sd) = (-2, (tm, x, hs, s0, s1, o, sd)) := by unfold fRun; dsimp only; rw [if_neg (by omega)]
      exact A_ireturn X dX9_run_31 ⟨by rw [e9], by rw [e9]; exact ⟨hN, ⟨_, _, _, lk_eq, htw⟩, (hX.keep (lk_ne (by omega) rfl)), (hT.keep (lk_ne (by omega) rfl)), hgd, (hR8.keep (lk_ne (by omega) rfl)), (hR9.keep (lk_ne (by omega) rfl)), (hO.keep (lk_ne (by omega) rfl)), (hH.keep (lk_ne (by omega) rfl)), (hV.keep (lk_ne (by omega) rfl) (lk_ne (by omega) rfl)), (hB.keep (lk_ne (by omega) rfl) (lk_ne (by omega) rfl)), (hSc.keep (lk_ne (by omega) rfl) (lk_ne (by omega) rfl) (lk_ne (by omega) rfl)), (hWd.keep (lk_ne (by omega) rfl) (lk_ne (by omega) rfl) (lk_ne (by omega) rfl))⟩, (fun k n0 => (lk_ne (by omega) rfl))⟩
