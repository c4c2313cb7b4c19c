/-! THE MODEL's calls: runs on a copy, actions -/
theorem psh_ok {hs : List (List Int)} {t : List Int} (hg : ∀ q ∈ hs, Gd q) (ht : Gd t) : (psh hs t).length ≤ 14 ∧ ∀ q ∈ psh hs t, Gd q := by
  rw [psh_eq]
  refine ⟨by rw [List.length_cons, List.length_take]; omega, fun q hq => ?_⟩
  rcases List.mem_cons.mp hq with e | e
  · rw [e]; exact ht
  · exact hg q (List.mem_of_mem_take e)
set_option maxRecDepth 100000 in
set_option maxHeartbeats 4000000 in
theorem c_X9_commit {l : Launch} {G : Gm} {c : HP} {tm x : List Int} {hs : List (List Int)} {s0 s1 : List Int} {o : List (Int × Int)} {sd : Int64} {u : List Int} (hG : injG G) (hW : WM G c (tm, x, hs, s0, s1, o, sd)) (hP : Mt G c 60 u) (hgu : Gd u) : AMet l G yX9_commit cX9_commit 1 ((some .int)) (rmR 1 22) [.ref (G.1 55)] c (Qi (fun v c' => v = zI ((u.length : Nat) : Int) ∧ WM G c' (u, x, psh hs tm, s0, s1, o, sd) ∧ (∀ k, k < 55 → c' k = c k))) := by
  refine AMet.of (vl := [some (.ref (G.1 55))]) (by decide) hG (Nat.le_of_ble_eq_true rfl) rfl ?_
  intro K X
  have X : Fx l G K cX9_commit 1 RX9 ((some .int)) (rmR 1 22) := X
  obtain ⟨hN, ⟨th, tw, pk, h55, htw⟩, hX, hT, hgd, hR8, hR9, hO, hH, hV, hB, hSc, hWd⟩ := hW
  dsimp only at h55 hX hT hgd hH hV hB
  have hl0 := hT.len
  have hxl := hX.1
  have hhl := hH.1
  have hol := hB.1
  have hH0 := hH
  obtain ⟨-, hHg, FH, h61, hHm⟩ := hH0
  refine A_aload_n (q := 1) X dX9_commit_0 rfl rfl ?_
  refine A_V0v (q := 4) X (c_X9_remember hG hN (h55) hT (h61) hHm hhl) mX9_remember kX9_137 dX9_commit_1 (by omega) h55 rfl (by decide) (Nat.le_of_ble_eq_true rfl) rfl (fun cq_2 hq_1 => ?_)
  obtain ⟨h55r, ⟨H2, h61r, hHm2⟩, hfr⟩ := hq_1
  have hps := psh_ok (t := tm) hHg hgd
  have hH9 : Hs9 G cq_2 (psh hs tm) := ⟨hps.1, hps.2, H2, h61r, hHm2⟩
  refine A_aload_n (q := 5) X dX9_commit_4 rfl rfl ?_
  refine A_getf (q := 8) X fX9_22 dX9_commit_5 (by omega) h55r rfl rfl ?_
  refine A_aload_n (q := 9) X dX9_commit_8 rfl rfl ?_
  refine A_getf (q := 12) X fX9_13 dX9_commit_9 (by omega) h55r rfl rfl ?_
  refine A_S2v (q := 15) X (c_assign hG (hP.keep (((hfr 60 (by omega) (by omega)).trans rfl))) (hT.keep ((hfr 57 (by omega) (by omega)).trans rfl)).mr (by decide)) mX9_assign kX9_100 dX9_commit_12 (by decide) (Nat.le_of_ble_eq_true rfl) rfl (fun cq_4 hq_3 => ?_)
  obtain ⟨hT9, hf9⟩ := hq_3
  have hT9x := hT9
  obtain ⟨-, -, F9, h579, hS9, -⟩ := hT9x
  refine A_aload_n (q := 16) X dX9_commit_15 rfl rfl ?_
  refine A_getf (q := 19) X fX9_13 dX9_commit_16 (by omega) ((hf9 _ (by omega)).trans h55r) rfl rfl ?_
  refine A_sipush (q := 22) X dX9_commit_19 (by decide) rfl ?_
  refine A_iald (q := 23) (h := 57) 200 X dX9_commit_22 (by omega) h579 (by omega) (by omega) (by decide) rfl ?_
  rw [hS9]
  exact A_ireturn X dX9_commit_23 ⟨rfl, ⟨hN, ⟨_, _, _, ((hf9 _ (by omega)).trans h55r), htw⟩, (hX.keep ((hf9 56 (by omega)).trans ((hfr 56 (by omega) (by omega)).trans rfl))), hT9, hgu, (hR8.keep ((hf9 58 (by omega)).trans ((hfr 58 (by omega) (by omega)).trans rfl))), (hR9.keep ((hf9 59 (by omega)).trans ((hfr 59 (by omega) (by omega)).trans rfl))), (hO.keep ((hf9 60 (by omega)).trans ((hfr 60 (by omega) (by omega)).trans rfl))), (hH9.keep ((hf9 61 (by omega)).trans rfl)), (hV.keep ((hf9 62 (by omega)).trans ((hfr 62 (by omega) (by omega)).trans rfl)) ((hf9 63 (by omega)).trans ((hfr 63 (by omega) (by omega)).trans rfl))), (hB.keep ((hf9 64 (by omega)).trans ((hfr 64 (by omega) (by omega)).trans rfl)) ((hf9 65 (by omega)).trans ((hfr 65 (by omega) (by omega)).trans rfl))), (hSc.keep ((hf9 66 (by omega)).trans ((hfr 66 (by omega) (by omega)).trans rfl)) ((hf9 67 (by omega)).trans ((hfr 67 (by omega) (by omega)).trans rfl)) ((hf9 68 (by omega)).trans ((hfr 68 (by omega) (by omega)).trans rfl))), (hWd.keep ((hf9 69 (by omega)).trans ((hfr 69 (by omega) (by omega)).trans rfl)) ((hf9 70 (by omega)).trans ((hfr 70 (by omega) (by omega)).trans rfl)) ((hf9 71 (by omega)).trans ((hfr 71 (by omega) (by omega)).trans rfl)))⟩, (fun k n0 => ((hf9 k (by omega)).trans ((hfr k (by omega) (by omega)).trans rfl)))⟩
set_option maxRecDepth 100000 in
set_option maxHeartbeats 4000000 in
theorem c_X9_stepsOfRun {l : Launch} {G : Gm} {c : HP} {tm x : List Int} {hs : List (List Int)} {s0 s1 : List Int} {o : List (Int × Int)} {sd : Int64} {s n : Int} (hG : injG G) (hsr : rg s) (hnr : rg n) (hW : WM G c (tm, x, hs, s0, s1, o, sd)) : AMet l G yX9_stepsOfRun cX9_stepsOfRun 3 ((some .int)) (rmR 5 117) [.ref (G.1 55), .int (zI s), .int (zI n)] c (Qi (fun v c' => v = zI (fSteps s n (tm, x, hs, s0, s1, o, sd)).1 ∧ WM G c' (fSteps s n (tm, x, hs, s0, s1, o, sd)).2 ∧ (∀ k, k < 55 → c' k = c k))) := by
  refine AMet.of (vl := [some (.ref (G.1 55)), some (.int (zI s)), some (.int (zI n))]) (by decide) hG (Nat.le_of_ble_eq_true rfl) rfl ?_
  intro K X
  have X : Fx l G K cX9_stepsOfRun 3 RX9 ((some .int)) (rmR 5 117) := X
  obtain ⟨hN, ⟨th, tw, pk, h55, htw⟩, hX, hT, hgd, hR8, hR9, hO, hH, hV, hB, hSc, hWd⟩ := hW
  dsimp only at h55 hX hT hgd hH hV hB
  have hl0 := hT.len
  have hxl := hX.1
  have hhl := hH.1
  have hol := hB.1
  refine A_aload_n (q := 1) X dX9_stepsOfRun_0 rfl rfl ?_
  refine A_iconst (q := 2) X dX9_stepsOfRun_1 rfl ?_
  refine A_putf (q := 5) X pX9_59 dX9_stepsOfRun_2 (by omega) h55 (Nat.le_of_ble_eq_true rfl) rfl rfl rfl ?_
  refine A_iload_n (q := 6) X dX9_stepsOfRun_5 rfl rfl ?_
  refine A_i2l (q := 7) X dX9_stepsOfRun_6 rfl ?_
  refine A_lconst (q := 8) (v := 0) X dX9_stepsOfRun_7 rfl rfl ?_
  refine A_ldc2 (q := 11) X dX9_stepsOfRun_8 nX9_135 rfl ?_
  refine A_S3i (q := 14) X (c_inZ (a := s) (b := 0) (d := 3) hG rfl (by decide) (by decide) (by omega) (by omega) (by omega)) mX9_in kX9_114 dX9_stepsOfRun_11 (by decide) (Nat.le_of_ble_eq_true rfl) rfl (fun vq_3 cq_2 hq_1 => ?_)
  obtain ⟨rfl, hq_1⟩ := hq_1
  obtain rfl := hq_1.symm
  refine A_beq (q := 17) (t := 29) X dX9_stepsOfRun_14 rfl rfl (fun hb14 => ?_) (fun hb14 => ?_)
  · refine A_bipush (q := 31) X dX9_stepsOfRun_29 (by decide) rfl ?_
    have e9 : fSteps s n (tm, x, hs, s0, s1, o, sd) = (-2, (tm, x, hs, s0, s1, o, sd)) := by unfold fSteps; rw [if_neg (by omega)]
    exact A_ireturn X dX9_stepsOfRun_31 ⟨by rw [e9], by rw [e9]; exact ⟨hN, ⟨_, _, _, lk_eq, htw⟩, (hX.keep (lk_ne (by omega) rfl)), (hT.keep (lk_ne (by omega) rfl)), hgd, (hR8.keep (lk_ne (by omega) rfl)), (hR9.keep (lk_ne (by omega) rfl)), (hO.keep (lk_ne (by omega) rfl)), (hH.keep (lk_ne (by omega) rfl)), (hV.keep (lk_ne (by omega) rfl) (lk_ne (by omega) rfl)), (hB.keep (lk_ne (by omega) rfl) (lk_ne (by omega) rfl)), (hSc.keep (lk_ne (by omega) rfl) (lk_ne (by omega) rfl) (lk_ne (by omega) rfl)), (hWd.keep (lk_ne (by omega) rfl) (lk_ne (by omega) rfl) (lk_ne (by omega) rfl))⟩, (fun k n0 => (lk_ne (by omega) rfl))⟩
  · refine A_iload_n (q := 18) X dX9_stepsOfRun_17 rfl rfl ?_
    refine A_i2l (q := 19) X dX9_stepsOfRun_18 rfl ?_
    refine A_lconst (q := 20) (v := 0) X dX9_stepsOfRun_19 rfl rfl ?_
    refine A_ldc2 (q := 23) X dX9_stepsOfRun_20 nX9_155 rfl ?_
    refine A_S3i (q := 26) X (c_inZ (a := n) (b := 0) (d := 200) hG rfl (by decide) (by decide) (by omega) (by omega) (by omega)) mX9_in kX9_114 dX9_stepsOfRun_23 (by decide) (Nat.le_of_ble_eq_true rfl) rfl (fun vq_6 cq_5 hq_4 => ?_)
    obtain ⟨rfl, hq_4⟩ := hq_4
    obtain rfl := hq_4.symm
    refine A_bne (q := 29) (t := 32) X dX9_stepsOfRun_26 rfl rfl (fun hb26 => ?_) (fun hb26 => ?_)
    · refine A_aload_n (q := 33) X dX9_stepsOfRun_32 rfl rfl ?_
      refine A_getf (q := 36) X fX9_13 dX9_stepsOfRun_33 (by omega) lk_eq rfl rfl ?_
      refine A_aload_n (q := 37) X dX9_stepsOfRun_36 rfl rfl ?_
      refine A_getf (q := 40) X fX9_16 dX9_stepsOfRun_37 (by omega) lk_eq rfl rfl ?_
      refine A_S2v (q := 43) X (c_assign hG (hT.keep (lk_ne (by omega) rfl)) (hR8.keep (lk_ne (by omega) rfl)) (by decide)) mX9_assign kX9_100 dX9_stepsOfRun_40 (by decide) (Nat.le_of_ble_eq_true rfl) rfl (fun cq_8 hq_7 => ?_)
      obtain ⟨hW8, hfw⟩ := hq_7
      refine A_aload_n (q := 44) X dX9_stepsOfRun_43 rfl rfl ?_
      refine A_aload_n (q := 45) X dX9_stepsOfRun_44 rfl rfl ?_
      refine A_getf (q := 48) X fX9_16 dX9_stepsOfRun_45 (by omega) ((hfw _ (by omega)).trans lk_eq) rfl rfl ?_
      refine A_iload_n (q := 49) X dX9_stepsOfRun_48 rfl rfl ?_
      refine A_iload_n (q := 50) X dX9_stepsOfRun_49 rfl rfl ?_
      rw [show zI n = zI ((n.toNat : Nat) : Int) from congrArg zI (by omega)]
      refine A_V3i (q := 53) X (c_X9_runOn (n0 := n.toNat) hG hN (((hfw _ (by omega)).trans lk_eq)) (by decide) (by omega) (by omega) hW8 hgd (hO.keep ((hfw 60 (by omega)).trans (lk_ne (by omega) rfl))) (hSc.keep ((hfw 66 (by omega)).trans (lk_ne (by omega) rfl)) ((hfw 67 (by omega)).trans (lk_ne (by omega) rfl)) ((hfw 68 (by omega)).trans (lk_ne (by omega) rfl)))) mX9_runOn kX9_104 dX9_stepsOfRun_50 (by omega) ((hfw _ (by omega)).trans lk_eq) rfl (by decide) (Nat.le_of_ble_eq_true rfl) rfl (fun vq_11 cq_10 hq_9 => ?_)
      obtain ⟨rfl, hW8b, hO8, hSc8, hf8⟩ := hq_9
      obtain ⟨-, hl8, F8, h588, hS8, hF8⟩ := (id hW8b : Mt G _ 58 _)
      have e9 : fSteps s n (tm, x, hs, s0, s1, o, sd) = ((((runT s n.toNat tm).2 : Nat) : Int), (tm, x, hs, s0, s1, o, sd)) := by unfold fSteps; rw [if_pos (by omega)]
      exact A_ireturn X dX9_stepsOfRun_53 ⟨by rw [e9], by rw [e9]; exact ⟨hN, ⟨_, _, _, ((hf8 _ (by omega) (by omega) (by omega) (by omega) (by omega)).trans ((hfw _ (by omega)).trans lk_eq)), htw⟩, (hX.keep ((hf8 56 (by omega) (by omega) (by omega) (by omega) (by omega)).trans ((hfw 56 (by omega)).trans (lk_ne (by omega) rfl)))), (hT.keep ((hf8 57 (by omega) (by omega) (by omega) (by omega) (by omega)).trans ((hfw 57 (by omega)).trans (lk_ne (by omega) rfl)))), hgd, hW8b.mr, (hR9.keep ((hf8 59 (by omega) (by omega) (by omega) (by omega) (by omega)).trans ((hfw 59 (by omega)).trans (lk_ne (by omega) rfl)))), hO8, (hH.keep ((hf8 61 (by omega) (by omega) (by omega) (by omega) (by omega)).trans ((hfw 61 (by omega)).trans (lk_ne (by omega) rfl)))), (hV.keep ((hf8 62 (by omega) (by omega) (by omega) (by omega) (by omega)).trans ((hfw 62 (by omega)).trans (lk_ne (by omega) rfl))) ((hf8 63 (by omega) (by omega) (by omega) (by omega) (by omega)).trans ((hfw 63 (by omega)).trans (lk_ne (by omega) rfl)))), (hB.keep ((hf8 64 (by omega) (by omega) (by omega) (by omega) (by omega)).trans ((hfw 64 (by omega)).trans (lk_ne (by omega) rfl))) ((hf8 65 (by omega) (by omega) (by omega) (by omega) (by omega)).trans ((hfw 65 (by omega)).trans (lk_ne (by omega) rfl)))), hSc8, (hWd.keep ((hf8 69 (by omega) (by omega) (by omega) (by omega) (by omega)).trans ((hfw 69 (by omega)).trans (lk_ne (by omega) rfl))) ((hf8 70 (by omega) (by omega) (by omega) (by omega) (by omega)).trans ((hfw 70 (by omega)).trans (lk_ne (by omega) rfl))) ((hf8 71 (by omega) (by omega) (by omega) (by omega) (by omega)).trans ((hfw 71 (by omega)).trans (lk_ne (by omega) rfl))))⟩, (fun k n0 => ((hf8 k (by omega) (by omega) (by omega) (by omega) (by omega)).trans ((hfw k (by omega)).trans (lk_ne (by omega) rfl))))⟩
    · refine A_bipush (q := 31) X dX9_stepsOfRun_29 (by decide) rfl ?_
      have e9 : fSteps s n (tm, x, hs, s0, s1, o, sd) = (-2, (tm, x, hs, s0, s1, o, sd)) := by unfold fSteps; rw [if_neg (by omega)]
      exact A_ireturn X dX9_stepsOfRun_31 ⟨by rw [e9], by rw [e9]; exact ⟨hN, ⟨_, _, _, lk_eq, htw⟩, (hX.keep (lk_ne (by omega) rfl)), (hT.keep (lk_ne (by omega) rfl)), hgd, (hR8.keep (lk_ne (by omega) rfl)), (hR9.keep (lk_ne (by omega) rfl)), (hO.keep (lk_ne (by omega) rfl)), (hH.keep (lk_ne (by omega) rfl)), (hV.keep (lk_ne (by omega) rfl) (lk_ne (by omega) rfl)), (hB.keep (lk_ne (by omega) rfl) (lk_ne (by omega) rfl)), (hSc.keep (lk_ne (by omega) rfl) (lk_ne (by omega) rfl) (lk_ne (by omega) rfl)), (hWd.keep (lk_ne (by omega) rfl) (lk_ne (by omega) rfl) (lk_ne (by omega) rfl))⟩, (fun k n0 => (lk_ne (by omega) rfl))⟩
set_option maxRecDepth 100000 in
set_option maxHeartbeats 4000000 in
theorem c_X9_sizeAfterRun {l : Launch} {G : Gm} {c : HP} {tm x : List Int} {hs : List (List Int)} {s0 s1 : List Int} {o : List (Int × Int)} {sd : Int64} {s n : Int} (hG : injG G) (hsr : rg s) (hnr : rg n) (hW : WM G c (tm, x, hs, s0, s1, o, sd)) : AMet l G yX9_sizeAfterRun cX9_sizeAfterRun 3 ((some .int)) (rmR 5 117) [.ref (G.1 55), .int (zI s), .int (zI n)] c (Qi (fun v c' => v = zI (fAfter s n (tm, x, hs, s0, s1, o, sd)).1 ∧ WM G c' (fAfter s n (tm, x, hs, s0, s1, o, sd)).2 ∧ (∀ k, k < 55 → c' k = c k))) := by
  refine AMet.of (vl := [some (.ref (G.1 55)), some (.int (zI s)), some (.int (zI n))]) (by decide) hG (Nat.le_of_ble_eq_true rfl) rfl ?_
  intro K X
  have X : Fx l G K cX9_sizeAfterRun 3 RX9 ((some .int)) (rmR 5 117) := X
  obtain ⟨hN, ⟨th, tw, pk, h55, htw⟩, hX, hT, hgd, hR8, hR9, hO, hH, hV, hB, hSc, hWd⟩ := hW
  dsimp only at h55 hX hT hgd hH hV hB
  have hl0 := hT.len
  have hxl := hX.1
  have hhl := hH.1
  have hol := hB.1
  refine A_aload_n (q := 1) X dX9_sizeAfterRun_0 rfl rfl ?_
  refine A_iconst (q := 2) X dX9_sizeAfterRun_1 rfl ?_
  refine A_putf (q := 5) X pX9_59 dX9_sizeAfterRun_2 (by omega) h55 (Nat.le_of_ble_eq_true rfl) rfl rfl rfl ?_
  refine A_iload_n (q := 6) X dX9_sizeAfterRun_5 rfl rfl ?_
  refine A_i2l (q := 7) X dX9_sizeAfterRun_6 rfl ?_
  refine A_lconst (q := 8) (v := 0) X dX9_sizeAfterRun_7 rfl rfl ?_
  refine A_ldc2 (q := 11) X dX9_sizeAfterRun_8 nX9_135 rfl ?_
  refine A_S3i (q := 14) X (c_inZ (a := s) (b := 0) (d := 3) hG rfl (by decide) (by decide) (by omega) (by omega) (by omega)) mX9_in kX9_114 dX9_sizeAfterRun_11 (by decide) (Nat.le_of_ble_eq_true rfl) rfl (fun vq_3 cq_2 hq_1 => ?_)
  obtain ⟨rfl, hq_1⟩ := hq_1
  obtain rfl := hq_1.symm
  refine A_beq (q := 17) (t := 29) X dX9_sizeAfterRun_14 rfl rfl (fun hb14 => ?_) (fun hb14 => ?_)
  · refine A_bipush (q := 31) X dX9_sizeAfterRun_29 (by decide) rfl ?_
    have e9 : fAfter s n (tm, x, hs, s0, s1, o, sd) = (-2, (tm, x, hs, s0, s1, o, sd)) := by unfold fAfter; rw [if_neg (by omega)]
    exact A_ireturn X dX9_sizeAfterRun_31 ⟨by rw [e9], by rw [e9]; exact ⟨hN, ⟨_, _, _, lk_eq, htw⟩, (hX.keep (lk_ne (by omega) rfl)), (hT.keep (lk_ne (by omega) rfl)), hgd, (hR8.keep (lk_ne (by omega) rfl)), (hR9.keep (lk_ne (by omega) rfl)), (hO.keep (lk_ne (by omega) rfl)), (hH.keep (lk_ne (by omega) rfl)), (hV.keep (lk_ne (by omega) rfl) (lk_ne (by omega) rfl)), (hB.keep (lk_ne (by omega) rfl) (lk_ne (by omega) rfl)), (hSc.keep (lk_ne (by omega) rfl) (lk_ne (by omega) rfl) (lk_ne (by omega) rfl)), (hWd.keep (lk_ne (by omega) rfl) (lk_ne (by omega) rfl) (lk_ne (by omega) rfl))⟩, (fun k n0 => (lk_ne (by omega) rfl))⟩
  · refine A_iload_n (q := 18) X dX9_sizeAfterRun_17 rfl rfl ?_
    refine A_i2l (q := 19) X dX9_sizeAfterRun_18 rfl ?_
    refine A_lconst (q := 20) (v := 0) X dX9_sizeAfterRun_19 rfl rfl ?_
    refine A_ldc2 (q := 23) X dX9_sizeAfterRun_20 nX9_155 rfl ?_
    refine A_S3i (q := 26) X (c_inZ (a := n) (b := 0) (d := 200) hG rfl (by decide) (by decide) (by omega) (by omega) (by omega)) mX9_in kX9_114 dX9_sizeAfterRun_23 (by decide) (Nat.le_of_ble_eq_true rfl) rfl (fun vq_6 cq_5 hq_4 => ?_)
    obtain ⟨rfl, hq_4⟩ := hq_4
    obtain rfl := hq_4.symm
    refine A_bne (q := 29) (t := 32) X dX9_sizeAfterRun_26 rfl rfl (fun hb26 => ?_) (fun hb26 => ?_)
    · refine A_aload_n (q := 33) X dX9_sizeAfterRun_32 rfl rfl ?_
      refine A_getf (q := 36) X fX9_13 dX9_sizeAfterRun_33 (by omega) lk_eq rfl rfl ?_
      refine A_aload_n (q := 37) X dX9_sizeAfterRun_36 rfl rfl ?_
      refine A_getf (q := 40) X fX9_16 dX9_sizeAfterRun_37 (by omega) lk_eq rfl rfl ?_
      refine A_S2v (q := 43) X (c_assign hG (hT.keep (lk_ne (by omega) rfl)) (hR8.keep (lk_ne (by omega) rfl)) (by decide)) mX9_assign kX9_100 dX9_sizeAfterRun_40 (by decide) (Nat.le_of_ble_eq_true rfl) rfl (fun cq_8 hq_7 => ?_)
      obtain ⟨hW8, hfw⟩ := hq_7
      refine A_aload_n (q := 44) X dX9_sizeAfterRun_43 rfl rfl ?_
      refine A_aload_n (q := 45) X dX9_sizeAfterRun_44 rfl rfl ?_
      refine A_getf (q := 48) X fX9_16 dX9_sizeAfterRun_45 (by omega) ((hfw _ (by omega)).trans lk_eq) rfl rfl ?_
      refine A_iload_n (q := 49) X dX9_sizeAfterRun_48 rfl rfl ?_
      refine A_iload_n (q := 50) X dX9_sizeAfterRun_49 rfl rfl ?_
      rw [show zI n = zI ((n.toNat : Nat) : Int) from congrArg zI (by omega)]
      refine A_V3i (q := 53) X (c_X9_runOn (n0 := n.toNat) hG hN (((hfw _ (by omega)).trans lk_eq)) (by decide) (by omega) (by omega) hW8 hgd (hO.keep ((hfw 60 (by omega)).trans (lk_ne (by omega) rfl))) (hSc.keep ((hfw 66 (by omega)).trans (lk_ne (by omega) rfl)) ((hfw 67 (by omega)).trans (lk_ne (by omega) rfl)) ((hfw 68 (by omega)).trans (lk_ne (by omega) rfl)))) mX9_runOn kX9_104 dX9_sizeAfterRun_50 (by omega) ((hfw _ (by omega)).trans lk_eq) rfl (by decide) (Nat.le_of_ble_eq_true rfl) rfl (fun vq_11 cq_10 hq_9 => ?_)
      obtain ⟨rfl, hW8b, hO8, hSc8, hf8⟩ := hq_9
      obtain ⟨-, hl8, F8, h588, hS8, hF8⟩ := (id hW8b : Mt G _ 58 _)
      refine A_pop (q := 54) X dX9_sizeAfterRun_53 rfl rfl ?_
      refine A_aload_n (q := 55) X dX9_sizeAfterRun_54 rfl rfl ?_
      refine A_getf (q := 58) X fX9_16 dX9_sizeAfterRun_55 (by omega) ((hf8 _ (by omega) (by omega) (by omega) (by omega) (by omega)).trans ((hfw _ (by omega)).trans lk_eq)) rfl rfl ?_
      refine A_sipush (q := 61) X dX9_sizeAfterRun_58 (by decide) rfl ?_
      refine A_iald (q := 62) (h := 58) 200 X dX9_sizeAfterRun_61 (by omega) h588 (by omega) (by omega) (by decide) rfl ?_
      rw [hS8]
      have e9 : fAfter s n (tm, x, hs, s0, s1, o, sd) = ((((runT s n.toNat tm).1.length : Nat) : Int), (tm, x, hs, s0, s1, o, sd)) := by unfold fAfter; rw [if_pos (by omega)]
      exact A_ireturn X dX9_sizeAfterRun_62 ⟨by rw [e9], by rw [e9]; exact ⟨hN, ⟨_, _, _, ((hf8 _ (by omega) (by omega) (by omega) (by omega) (by omega)).trans ((hfw _ (by omega)).trans lk_eq)), htw⟩, (hX.keep ((hf8 56 (by omega) (by omega) (by omega) (by omega) (by omega)).trans ((hfw 56 (by omega)).trans (lk_ne (by omega) rfl)))), (hT.keep ((hf8 57 (by omega) (by omega) (by omega) (by omega) (by omega)).trans ((hfw 57 (by omega)).trans (lk_ne (by omega) rfl)))), hgd, hW8b.mr, (hR9.keep ((hf8 59 (by omega) (by omega) (by omega) (by omega) (by omega)).trans ((hfw 59 (by omega)).trans (lk_ne (by omega) rfl)))), hO8, (hH.keep ((hf8 61 (by omega) (by omega) (by omega) (by omega) (by omega)).trans ((hfw 61 (by omega)).trans (lk_ne (by omega) rfl)))), (hV.keep ((hf8 62 (by omega) (by omega) (by omega) (by omega) (by omega)).trans ((hfw 62 (by omega)).trans (lk_ne (by omega) rfl))) ((hf8 63 (by omega) (by omega) (by omega) (by omega) (by omega)).trans ((hfw 63 (by omega)).trans (lk_ne (by omega) rfl)))), (hB.keep ((hf8 64 (by omega) (by omega) (by omega) (by omega) (by omega)).trans ((hfw 64 (by omega)).trans (lk_ne (by omega) rfl))) ((hf8 65 (by omega) (by omega) (by omega) (by omega) (by omega)).trans ((hfw 65 (by omega)).trans (lk_ne (by omega) rfl)))), hSc8, (hWd.keep ((hf8 69 (by omega) (by omega) (by omega) (by omega) (by omega)).trans ((hfw 69 (by omega)).trans (lk_ne (by omega) rfl))) ((hf8 70 (by omega) (by omega) (by omega) (by omega) (by omega)).trans ((hfw 70 (by omega)).trans (lk_ne (by omega) rfl))) ((hf8 71 (by omega) (by omega) (by omega) (by omega) (by omega)).trans ((hfw 71 (by omega)).trans (lk_ne (by omega) rfl))))⟩, (fun k n0 => ((hf8 k (by omega) (by omega) (by omega) (by omega) (by omega)).trans ((hfw k (by omega)).trans (lk_ne (by omega) rfl))))⟩
    · refine A_bipush (q := 31) X dX9_sizeAfterRun_29 (by decide) rfl ?_
      have e9 : fAfter s n (tm, x, hs, s0, s1, o, sd) = (-2, (tm, x, hs, s0, s1, o, sd)) := by unfold fAfter; rw [if_neg (by omega)]
      exact A_ireturn X dX9_sizeAfterRun_31 ⟨by rw [e9], by rw [e9]; exact ⟨hN, ⟨_, _, _, lk_eq, htw⟩, (hX.keep (lk_ne (by omega) rfl)), (hT.keep (lk_ne (by omega) rfl)), hgd, (hR8.keep (lk_ne (by omega) rfl)), (hR9.keep (lk_ne (by omega) rfl)), (hO.keep (lk_ne (by omega) rfl)), (hH.keep (lk_ne (by omega) rfl)), (hV.keep (lk_ne (by omega) rfl) (lk_ne (by omega) rfl)), (hB.keep (lk_ne (by omega) rfl) (lk_ne (by omega) rfl)), (hSc.keep (lk_ne (by omega) rfl) (lk_ne (by omega) rfl) (lk_ne (by omega) rfl)), (hWd.keep (lk_ne (by omega) rfl) (lk_ne (by omega) rfl) (lk_ne (by omega) rfl))⟩, (fun k n0 => (lk_ne (by omega) rfl))⟩
set_option maxRecDepth 100000 in
set_option maxHeartbeats 4000000 in
theorem c_X9_normalSize {l : Launch} {G : Gm} {c : HP} {tm x : List Int} {hs : List (List Int)} {s0 s1 : List Int} {o : List (Int × Int)} {sd : Int64} (hG : injG G)  (hW : WM G c (tm, x, hs, s0, s1, o, sd)) : AMet l G yX9_normalSize cX9_normalSize 1 ((some .int)) (rmR 6 138) [.ref (G.1 55)] c (Qi (fun v c' => v = zI (fNSize (tm, x, hs, s0, s1, o, sd)).1 ∧ WM G c' (fNSize (tm, x, hs, s0, s1, o, sd)).2 ∧ (∀ k, k < 55 → c' k = c k))) := by
  refine AMet.of (vl := [some (.ref (G.1 55))]) (by decide) hG (Nat.le_of_ble_eq_true rfl) rfl ?_
  intro K X
  have X : Fx l G K cX9_normalSize 1 RX9 ((some .int)) (rmR 6 138) := X
  obtain ⟨hN, ⟨th, tw, pk, h55, htw⟩, hX, hT, hgd, hR8, hR9, hO, hH, hV, hB, hSc, hWd⟩ := hW
  dsimp only at h55 hX hT hgd hH hV hB
  have hl0 := hT.len
  have hxl := hX.1
  have hhl := hH.1
  have hol := hB.1
  refine A_aload_n (q := 1) X dX9_normalSize_0 rfl rfl ?_
  refine A_iconst (q := 2) X dX9_normalSize_1 rfl ?_
  refine A_putf (q := 5) X pX9_59 dX9_normalSize_2 (by omega) h55 (Nat.le_of_ble_eq_true rfl) rfl rfl rfl ?_
  refine A_aload_n (q := 6) X dX9_normalSize_5 rfl rfl ?_
  refine A_getf (q := 9) X fX9_13 dX9_normalSize_6 (by omega) lk_eq rfl rfl ?_
  refine A_aload_n (q := 10) X dX9_normalSize_9 rfl rfl ?_
  refine A_getf (q := 13) X fX9_16 dX9_normalSize_10 (by omega) lk_eq rfl rfl ?_
  refine A_S2v (q := 16) X (c_assign hG (hT.keep (lk_ne (by omega) rfl)) (hR8.keep (lk_ne (by omega) rfl)) (by decide)) mX9_assign kX9_100 dX9_normalSize_13 (by decide) (Nat.le_of_ble_eq_true rfl) rfl (fun cq_2 hq_1 => ?_)
  obtain ⟨hW8, hfw⟩ := hq_1
  refine A_aload_n (q := 17) X dX9_normalSize_16 rfl rfl ?_
  refine A_aload_n (q := 18) X dX9_normalSize_17 rfl rfl ?_
  refine A_getf (q := 21) X fX9_16 dX9_normalSize_18 (by omega) ((hfw _ (by omega)).trans lk_eq) rfl rfl ?_
  refine A_V1i (q := 24) X (c_X9_normalize hG hN (((hfw _ (by omega)).trans lk_eq)) (by decide) hW8 hgd (hO.keep ((hfw 60 (by omega)).trans (lk_ne (by omega) rfl))) (hSc.keep ((hfw 66 (by omega)).trans (lk_ne (by omega) rfl)) ((hfw 67 (by omega)).trans (lk_ne (by omega) rfl)) ((hfw 68 (by omega)).trans (lk_ne (by omega) rfl)))) mX9_normalize kX9_157 dX9_normalSize_21 (by omega) ((hfw _ (by omega)).trans lk_eq) rfl (by decide) (Nat.le_of_ble_eq_true rfl) rfl (fun vq_5 cq_4 hq_3 => ?_)
  obtain ⟨rfl, hW8b, hO8, hSc8, hf8⟩ := hq_3
  obtain ⟨-, hl8, F8, h588, hS8, hF8⟩ := (id hW8b : Mt G _ 58 _)
  have hgn : Gd (nrm tm) := Gd_run 0 200 tm hgd
  have hpn := hgn.pos
  refine A_beq (q := 27) (t := 38) X dX9_normalSize_24 rfl rfl (fun hb24 => ?_) (fun hb24 => ?_)
  · refine A_bipush (q := 40) X dX9_normalSize_38 (by decide) rfl ?_
    have e9 : fNSize (tm, x, hs, s0, s1, o, sd) = (-9, (tm, x, hs, s0, s1, o, sd)) := by unfold fNSize; rw [if_neg hb24]
    exact A_ireturn X dX9_normalSize_40 ⟨by rw [e9], by rw [e9]; exact ⟨hN, ⟨_, _, _, ((hf8 _ (by omega) (by omega) (by omega) (by omega) (by omega)).trans ((hfw _ (by omega)).trans lk_eq)), htw⟩, (hX.keep ((hf8 56 (by omega) (by omega) (by omega) (by omega) (by omega)).trans ((hfw 56 (by omega)).trans (lk_ne (by omega) rfl)))), (hT.keep ((hf8 57 (by omega) (by omega) (by omega) (by omega) (by omega)).trans ((hfw 57 (by omega)).trans (lk_ne (by omega) rfl)))), hgd, hW8b.mr, (hR9.keep ((hf8 59 (by omega) (by omega) (by omega) (by omega) (by omega)).trans ((hfw 59 (by omega)).trans (lk_ne (by omega) rfl)))), hO8, (hH.keep ((hf8 61 (by omega) (by omega) (by omega) (by omega) (by omega)).trans ((hfw 61 (by omega)).trans (lk_ne (by omega) rfl)))), (hV.keep ((hf8 62 (by omega) (by omega) (by omega) (by omega) (by omega)).trans ((hfw 62 (by omega)).trans (lk_ne (by omega) rfl))) ((hf8 63 (by omega) (by omega) (by omega) (by omega) (by omega)).trans ((hfw 63 (by omega)).trans (lk_ne (by omega) rfl)))), (hB.keep ((hf8 64 (by omega) (by omega) (by omega) (by omega) (by omega)).trans ((hfw 64 (by omega)).trans (lk_ne (by omega) rfl))) ((hf8 65 (by omega) (by omega) (by omega) (by omega) (by omega)).trans ((hfw 65 (by omega)).trans (lk_ne (by omega) rfl)))), hSc8, (hWd.keep ((hf8 69 (by omega) (by omega) (by omega) (by omega) (by omega)).trans ((hfw 69 (by omega)).trans (lk_ne (by omega) rfl))) ((hf8 70 (by omega) (by omega) (by omega) (by omega) (by omega)).trans ((hfw 70 (by omega)).trans (lk_ne (by omega) rfl))) ((hf8 71 (by omega) (by omega) (by omega) (by omega) (by omega)).trans ((hfw 71 (by omega)).trans (lk_ne (by omega) rfl))))⟩, (fun k n0 => ((hf8 k (by omega) (by omega) (by omega) (by omega) (by omega)).trans ((hfw k (by omega)).trans (lk_ne (by omega) rfl))))⟩
  · refine A_aload_n (q := 28) X dX9_normalSize_27 rfl rfl ?_
    refine A_getf (q := 31) X fX9_16 dX9_normalSize_28 (by omega) ((hf8 _ (by omega) (by omega) (by omega) (by omega) (by omega)).trans ((hfw _ (by omega)).trans lk_eq)) rfl rfl ?_
    refine A_sipush (q := 34) X dX9_normalSize_31 (by decide) rfl ?_
    refine A_iald (q := 35) (h := 58) 200 X dX9_normalSize_34 (by omega) h588 (by omega) (by omega) (by decide) rfl ?_
    rw [hS8]
    refine A_goto (q := 40) X dX9_normalSize_35 rfl ?_
    have e9 : fNSize (tm, x, hs, s0, s1, o, sd) = ((((nrm tm).length : Nat) : Int), (tm, x, hs, s0, s1, o, sd)) := by unfold fNSize; rw [if_pos hb24]
    exact A_ireturn X dX9_normalSize_40 ⟨by rw [e9], by rw [e9]; exact ⟨hN, ⟨_, _, _, ((hf8 _ (by omega) (by omega) (by omega) (by omega) (by omega)).trans ((hfw _ (by omega)).trans lk_eq)), htw⟩, (hX.keep ((hf8 56 (by omega) (by omega) (by omega) (by omega) (by omega)).trans ((hfw 56 (by omega)).trans (lk_ne (by omega) rfl)))), (hT.keep ((hf8 57 (by omega) (by omega) (by omega) (by omega) (by omega)).trans ((hfw 57 (by omega)).trans (lk_ne (by omega) rfl)))), hgd, hW8b.mr, (hR9.keep ((hf8 59 (by omega) (by omega) (by omega) (by omega) (by omega)).trans ((hfw 59 (by omega)).trans (lk_ne (by omega) rfl)))), hO8, (hH.keep ((hf8 61 (by omega) (by omega) (by omega) (by omega) (by omega)).trans ((hfw 61 (by omega)).trans (lk_ne (by omega) rfl)))), (hV.keep ((hf8 62 (by omega) (by omega) (by omega) (by omega) (by omega)).trans ((hfw 62 (by omega)).trans (lk_ne (by omega) rfl))) ((hf8 63 (by omega) (by omega) (by omega) (by omega) (by omega)).trans ((hfw 63 (by omega)).trans (lk_ne (by omega) rfl)))), (hB.keep ((hf8 64 (by omega) (by omega) (by omega) (by omega) (by omega)).trans ((hfw 64 (by omega)).trans (lk_ne (by omega) rfl))) ((hf8 65 (by omega) (by omega) (by omega) (by omega) (by omega)).trans ((hfw 65 (by omega)).trans (lk_ne (by omega) rfl)))), hSc8, (hWd.keep ((hf8 69 (by omega) (by omega) (by omega) (by omega) (by omega)).trans ((hfw 69 (by omega)).trans (lk_ne (by omega) rfl))) ((hf8 70 (by omega) (by omega) (by omega) (by omega) (by omega)).trans ((hfw 70 (by omega)).trans (lk_ne (by omega) rfl))) ((hf8 71 (by omega) (by omega) (by omega) (by omega) (by omega)).trans ((hfw 71 (by omega)).trans (lk_ne (by omega) rfl))))⟩, (fun k n0 => ((hf8 k (by omega) (by omega) (by omega) (by omega) (by omega)).trans ((hfw k (by omega)).trans (lk_ne (by omega) rfl))))⟩
set_option maxRecDepth 100000 in
set_option maxHeartbeats 4000000 in
theorem c_X9_normalTokenAt {l : Launch} {G : Gm} {c : HP} {tm x : List Int} {hs : List (List Int)} {s0 s1 : List Int} {o : List (Int × Int)} {sd : Int64} {p : Int} (hG : injG G) (hpr : rg p) (hW : WM G c (tm, x, hs, s0, s1, o, sd)) : AMet l G yX9_normalTokenAt cX9_normalTokenAt 2 ((some .int)) (rmR 6 138) [.ref (G.1 55), .int (zI p)] c (Qi (fun v c' => v = zI (fNTok p (tm, x, hs, s0, s1, o, sd)).1 ∧ WM G c' (fNTok p (tm, x, hs, s0, s1, o, sd)).2 ∧ (∀ k, k < 55 → c' k = c k))) := by
  refine AMet.of (vl := [some (.ref (G.1 55)), some (.int (zI p))]) (by decide) hG (Nat.le_of_ble_eq_true rfl) rfl ?_
  intro K X
  have X : Fx l G K cX9_normalTokenAt 2 RX9 ((some .int)) (rmR 6 138) := X
  obtain ⟨hN, ⟨th, tw, pk, h55, htw⟩, hX, hT, hgd, hR8, hR9, hO, hH, hV, hB, hSc, hWd⟩ := hW
  dsimp only at h55 hX hT hgd hH hV hB
  have hl0 := hT.len
  have hxl := hX.1
  have hhl := hH.1
  have hol := hB.1
  refine A_aload_n (q := 1) X dX9_normalTokenAt_0 rfl rfl ?_
  refine A_iconst (q := 2) X dX9_normalTokenAt_1 rfl ?_
  refine A_putf (q := 5) X pX9_59 dX9_normalTokenAt_2 (by omega) h55 (Nat.le_of_ble_eq_true rfl) rfl rfl rfl ?_
  refine A_aload_n (q := 6) X dX9_normalTokenAt_5 rfl rfl ?_
  refine A_getf (q := 9) X fX9_13 dX9_normalTokenAt_6 (by omega) lk_eq rfl rfl ?_
  refine A_aload_n (q := 10) X dX9_normalTokenAt_9 rfl rfl ?_
  refine A_getf (q := 13) X fX9_16 dX9_normalTokenAt_10 (by omega) lk_eq rfl rfl ?_
  refine A_S2v (q := 16) X (c_assign hG (hT.keep (lk_ne (by omega) rfl)) (hR8.keep (lk_ne (by omega) rfl)) (by decide)) mX9_assign kX9_100 dX9_normalTokenAt_13 (by decide) (Nat.le_of_ble_eq_true rfl) rfl (fun cq_2 hq_1 => ?_)
  obtain ⟨hW8, hfw⟩ := hq_1
  refine A_aload_n (q := 17) X dX9_normalTokenAt_16 rfl rfl ?_
  refine A_aload_n (q := 18) X dX9_normalTokenAt_17 rfl rfl ?_
  refine A_getf (q := 21) X fX9_16 dX9_normalTokenAt_18 (by omega) ((hfw _ (by omega)).trans lk_eq) rfl rfl ?_
  refine A_V1i (q := 24) X (c_X9_normalize hG hN (((hfw _ (by omega)).trans lk_eq)) (by decide) hW8 hgd (hO.keep ((hfw 60 (by omega)).trans (lk_ne (by omega) rfl))) (hSc.keep ((hfw 66 (by omega)).trans (lk_ne (by omega) rfl)) ((hfw 67 (by omega)).trans (lk_ne (by omega) rfl)) ((hfw 68 (by omega)).trans (lk_ne (by omega) rfl)))) mX9_normalize kX9_157 dX9_normalTokenAt_21 (by omega) ((hfw _ (by omega)).trans lk_eq) rfl (by decide) (Nat.le_of_ble_eq_true rfl) rfl (fun vq_5 cq_4 hq_3 => ?_)
  obtain ⟨rfl, hW8b, hO8, hSc8, hf8⟩ := hq_3
  obtain ⟨-, hl8, F8, h588, hS8, hF8⟩ := (id hW8b : Mt G _ 58 _)
  have hgn : Gd (nrm tm) := Gd_run 0 200 tm hgd
  have hpn := hgn.pos
  refine A_bne (q := 27) (t := 30) X dX9_normalTokenAt_24 rfl rfl (fun hb24 => ?_) (fun hb24 => ?_)
  · refine A_iload_n (q := 31) X dX9_normalTokenAt_30 rfl rfl ?_
    refine A_i2l (q := 32) X dX9_normalTokenAt_31 rfl ?_
    refine A_lconst (q := 33) (v := 0) X dX9_normalTokenAt_32 rfl rfl ?_
    refine A_aload_n (q := 34) X dX9_normalTokenAt_33 rfl rfl ?_
    refine A_getf (q := 37) X fX9_16 dX9_normalTokenAt_34 (by omega) ((hf8 _ (by omega) (by omega) (by omega) (by omega) (by omega)).trans ((hfw _ (by omega)).trans lk_eq)) rfl rfl ?_
    refine A_sipush (q := 40) X dX9_normalTokenAt_37 (by decide) rfl ?_
    refine A_iald (q := 41) (h := 58) 200 X dX9_normalTokenAt_40 (by omega) h588 (by omega) (by omega) (by decide) rfl ?_
    rw [hS8]
    refine A_iconst (q := 42) X dX9_normalTokenAt_41 rfl ?_
    refine A_isub (q := 43) X dX9_normalTokenAt_42 rfl ?_
    refine A_i2l (q := 44) X dX9_normalTokenAt_43 rfl ?_
    refine A_S3i (q := 47) X (c_inZ (a := p) (b := 0) (d := ((((nrm tm).length : Nat) : Int) - 1)) hG rfl (by decide) rfl (by omega) (by omega) (by omega)) mX9_in kX9_114 dX9_normalTokenAt_44 (by decide) (Nat.le_of_ble_eq_true rfl) rfl (fun vq_8 cq_7 hq_6 => ?_)
    obtain ⟨rfl, hq_6⟩ := hq_6
    obtain rfl := hq_6.symm
    refine A_beq (q := 50) (t := 59) X dX9_normalTokenAt_47 rfl rfl (fun hb47 => ?_) (fun hb47 => ?_)
    · refine A_iconst (q := 60) X dX9_normalTokenAt_59 rfl ?_
      have e9 : fNTok p (tm, x, hs, s0, s1, o, sd) = (-1, (tm, x, hs, s0, s1, o, sd)) := by have et : tokA (nrm tm) p = -1 := (by unfold tokA; rw [if_neg (by omega)]); unfold fNTok; rw [if_pos hb24]; exact congrArg (fun z => (z, (tm, x, hs, s0, s1, o, sd))) et
      exact A_ireturn X dX9_normalTokenAt_60 ⟨by rw [e9], by rw [e9]; exact ⟨hN, ⟨_, _, _, ((hf8 _ (by omega) (by omega) (by omega) (by omega) (by omega)).trans ((hfw _ (by omega)).trans lk_eq)), htw⟩, (hX.keep ((hf8 56 (by omega) (by omega) (by omega) (by omega) (by omega)).trans ((hfw 56 (by omega)).trans (lk_ne (by omega) rfl)))), (hT.keep ((hf8 57 (by omega) (by omega) (by omega) (by omega) (by omega)).trans ((hfw 57 (by omega)).trans (lk_ne (by omega) rfl)))), hgd, hW8b.mr, (hR9.keep ((hf8 59 (by omega) (by omega) (by omega) (by omega) (by omega)).trans ((hfw 59 (by omega)).trans (lk_ne (by omega) rfl)))), hO8, (hH.keep ((hf8 61 (by omega) (by omega) (by omega) (by omega) (by omega)).trans ((hfw 61 (by omega)).trans (lk_ne (by omega) rfl)))), (hV.keep ((hf8 62 (by omega) (by omega) (by omega) (by omega) (by omega)).trans ((hfw 62 (by omega)).trans (lk_ne (by omega) rfl))) ((hf8 63 (by omega) (by omega) (by omega) (by omega) (by omega)).trans ((hfw 63 (by omega)).trans (lk_ne (by omega) rfl)))), (hB.keep ((hf8 64 (by omega) (by omega) (by omega) (by omega) (by omega)).trans ((hfw 64 (by omega)).trans (lk_ne (by omega) rfl))) ((hf8 65 (by omega) (by omega) (by omega) (by omega) (by omega)).trans ((hfw 65 (by omega)).trans (lk_ne (by omega) rfl)))), hSc8, (hWd.keep ((hf8 69 (by omega) (by omega) (by omega) (by omega) (by omega)).trans ((hfw 69 (by omega)).trans (lk_ne (by omega) rfl))) ((hf8 70 (by omega) (by omega) (by omega) (by omega) (by omega)).trans ((hfw 70 (by omega)).trans (lk_ne (by omega) rfl))) ((hf8 71 (by omega) (by omega) (by omega) (by omega) (by omega)).trans ((hfw 71 (by omega)).trans (lk_ne (by omega) rfl))))⟩, (fun k n0 => ((hf8 k (by omega) (by omega) (by omega) (by omega) (by omega)).trans ((hfw k (by omega)).trans (lk_ne (by omega) rfl))))⟩
    · refine A_aload_n (q := 51) X dX9_normalTokenAt_50 rfl rfl ?_
      refine A_getf (q := 54) X fX9_16 dX9_normalTokenAt_51 (by omega) ((hf8 _ (by omega) (by omega) (by omega) (by omega) (by omega)).trans ((hfw _ (by omega)).trans lk_eq)) rfl rfl ?_
      refine A_iload_n (q := 55) X dX9_normalTokenAt_54 rfl rfl ?_
      refine A_iald (q := 56) (h := 58) ((p).toNat) X dX9_normalTokenAt_55 (by omega) h588 (by omega) (by omega) (by decide) rfl ?_
      rw [hF8 p.toNat (by omega)]
      refine A_goto (q := 60) X dX9_normalTokenAt_56 rfl ?_
      have e9 : fNTok p (tm, x, hs, s0, s1, o, sd) = ((nrm tm).getD p.toNat 0, (tm, x, hs, s0, s1, o, sd)) := by have et : tokA (nrm tm) p = (nrm tm).getD p.toNat 0 := (by unfold tokA; rw [if_pos (by omega)]); unfold fNTok; rw [if_pos hb24]; exact congrArg (fun z => (z, (tm, x, hs, s0, s1, o, sd))) et
      exact A_ireturn X dX9_normalTokenAt_60 ⟨by rw [e9], by rw [e9]; exact ⟨hN, ⟨_, _, _, ((hf8 _ (by omega) (by omega) (by omega) (by omega) (by omega)).trans ((hfw _ (by omega)).trans lk_eq)), htw⟩, (hX.keep ((hf8 56 (by omega) (by omega) (by omega) (by omega) (by omega)).trans ((hfw 56 (by omega)).trans (lk_ne (by omega) rfl)))), (hT.keep ((hf8 57 (by omega) (by omega) (by omega) (by omega) (by omega)).trans ((hfw 57 (by omega)).trans (lk_ne (by omega) rfl)))), hgd, hW8b.mr, (hR9.keep ((hf8 59 (by omega) (by omega) (by omega) (by omega) (by omega)).trans ((hfw 59 (by omega)).trans (lk_ne (by omega) rfl)))), hO8, (hH.keep ((hf8 61 (by omega) (by omega) (by omega) (by omega) (by omega)).trans ((hfw 61 (by omega)).trans (lk_ne (by omega) rfl)))), (hV.keep ((hf8 62 (by omega) (by omega) (by omega) (by omega) (by omega)).trans ((hfw 62 (by omega)).trans (lk_ne (by omega) rfl))) ((hf8 63 (by omega) (by omega) (by omega) (by omega) (by omega)).trans ((hfw 63 (by omega)).trans (lk_ne (by omega) rfl)))), (hB.keep ((hf8 64 (by omega) (by omega) (by omega) (by omega) (by omega)).trans ((hfw 64 (by omega)).trans (lk_ne (by omega) rfl))) ((hf8 65 (by omega) (by omega) (by omega) (by omega) (by omega)).trans ((hfw 65 (by omega)).trans (lk_ne (by omega) rfl)))), hSc8, (hWd.keep ((hf8 69 (by omega) (by omega) (by omega) (by omega) (by omega)).trans ((hfw 69 (by omega)).trans (lk_ne (by omega) rfl))) ((hf8 70 (by omega) (by omega) (by omega) (by omega) (by omega)).trans ((hfw 70 (by omega)).trans (lk_ne (by omega) rfl))) ((hf8 71 (by omega) (by omega) (by omega) (by omega) (by omega)).trans ((hfw 71 (by omega)).trans (lk_ne (by omega) rfl))))⟩, (fun k n0 => ((hf8 k (by omega) (by omega) (by omega) (by omega) (by omega)).trans ((hfw k (by omega)).trans (lk_ne (by omega) rfl))))⟩
  · refine A_bipush (q := 29) X dX9_normalTokenAt_27 (by decide) rfl ?_
    have e9 : fNTok p (tm, x, hs, s0, s1, o, sd) = (-9, (tm, x, hs, s0, s1, o, sd)) := by unfold fNTok; rw [if_neg hb24]
    exact A_ireturn X dX9_normalTokenAt_29 ⟨by rw [e9], by rw [e9]; exact ⟨hN, ⟨_, _, _, ((hf8 _ (by omega) (by omega) (by omega) (by omega) (by omega)).trans ((hfw _ (by omega)).trans lk_eq)), htw⟩, (hX.keep ((hf8 56 (by omega) (by omega) (by omega) (by omega) (by omega)).trans ((hfw 56 (by omega)).trans (lk_ne (by omega) rfl)))), (hT.keep ((hf8 57 (by omega) (by omega) (by omega) (by omega) (by omega)).trans ((hfw 57 (by omega)).trans (lk_ne (by omega) rfl)))), hgd, hW8b.mr, (hR9.keep ((hf8 59 (by omega) (by omega) (by omega) (by omega) (by omega)).trans ((hfw 59 (by omega)).trans (lk_ne (by omega) rfl)))), hO8, (hH.keep ((hf8 61 (by omega) (by omega) (by omega) (by omega) (by omega)).trans ((hfw 61 (by omega)).trans (lk_ne (by omega) rfl)))), (hV.keep ((hf8 62 (by omega) (by omega) (by omega) (by omega) (by omega)).trans ((hfw 62 (by omega)).trans (lk_ne (by omega) rfl))) ((hf8 63 (by omega) (by omega) (by omega) (by omega) (by omega)).trans ((hfw 63 (by omega)).trans (lk_ne (by omega) rfl)))), (hB.keep ((hf8 64 (by omega) (by omega) (by omega) (by omega) (by omega)).trans ((hfw 64 (by omega)).trans (lk_ne (by omega) rfl))) ((hf8 65 (by omega) (by omega) (by omega) (by omega) (by omega)).trans ((hfw 65 (by omega)).trans (lk_ne (by omega) rfl)))), hSc8, (hWd.keep ((hf8 69 (by omega) (by omega) (by omega) (by omega) (by omega)).trans ((hfw 69 (by omega)).trans (lk_ne (by omega) rfl))) ((hf8 70 (by omega) (by omega) (by omega) (by omega) (by omega)).trans ((hfw 70 (by omega)).trans (lk_ne (by omega) rfl))) ((hf8 71 (by omega) (by omega) (by omega) (by omega) (by omega)).trans ((hfw 71 (by omega)).trans (lk_ne (by omega) rfl))))⟩, (fun k n0 => ((hf8 k (by omega) (by omega) (by omega) (by omega) (by omega)).trans ((hfw k (by omega)).trans (lk_ne (by omega) rfl))))⟩
set_option maxRecDepth 100000 in
set_option maxHeartbeats 4000000 in
theorem c_X9_abstractTerm {l : Launch} {G : Gm} {c : HP} {tm x : List Int} {hs : List (List Int)} {s0 s1 : List Int} {o : List (Int × Int)} {sd : Int64} (hG : injG G)  (hW : WM G c (tm, x, hs, s0, s1, o, sd)) : AMet l G yX9_abstractTerm cX9_abstractTerm 1 ((some .int)) (rmR 2 45) [.ref (G.1 55)] c (Qi (fun v c' => v = zI (fAbs (tm, x, hs, s0, s1, o, sd)).1 ∧ WM G c' (fAbs (tm, x, hs, s0, s1, o, sd)).2 ∧ (∀ k, k < 55 → c' k = c k))) := by
  refine AMet.of (vl := [some (.ref (G.1 55))]) (by decide) hG (Nat.le_of_ble_eq_true rfl) rfl ?_
  intro K X
  have X : Fx l G K cX9_abstractTerm 1 RX9 ((some .int)) (rmR 2 45) := X
  obtain ⟨hN, ⟨th, tw, pk, h55, htw⟩, hX, hT, hgd, hR8, hR9, hO, hH, hV, hB, hSc, hWd⟩ := hW
  dsimp only at h55 hX hT hgd hH hV hB
  have hl0 := hT.len
  have hxl := hX.1
  have hhl := hH.1
  have hol := hB.1
  refine A_aload_n (q := 1) X dX9_abstractTerm_0 rfl rfl ?_
  refine A_iconst (q := 2) X dX9_abstractTerm_1 rfl ?_
  refine A_putf (q := 5) X pX9_59 dX9_abstractTerm_2 (by omega) h55 (Nat.le_of_ble_eq_true rfl) rfl rfl rfl ?_
  refine A_aload_n (q := 6) X dX9_abstractTerm_5 rfl rfl ?_
  refine A_sipush (q := 9) X dX9_abstractTerm_6 (by decide) rfl ?_
  refine A_aload_n (q := 10) X dX9_abstractTerm_9 rfl rfl ?_
  refine A_getf (q := 13) X fX9_13 dX9_abstractTerm_10 (by omega) lk_eq rfl rfl ?_
  refine A_V2i (q := 16) X (c_X9_putBehind hG hN (lk_eq) (by decide) (hT.keep (lk_ne (by omega) rfl)) (hO.keep (lk_ne (by omega) rfl))) mX9_putBehind kX9_145 dX9_abstractTerm_13 (by omega) lk_eq rfl (by decide) (Nat.le_of_ble_eq_true rfl) rfl (fun vq_3 cq_2 hq_1 => ?_)
  obtain ⟨rfl, hPb, hfb⟩ := hq_1
  refine A_beq (q := 19) (t := 26) X dX9_abstractTerm_16 rfl rfl (fun hb16 => ?_) (fun hb16 => ?_)
  · refine A_bipush (q := 28) X dX9_abstractTerm_26 (by decide) rfl ?_
    have e9 : fAbs (tm, x, hs, s0, s1, o, sd) = (-4, (tm, x, hs, s0, s1, o, sd)) := by unfold fAbs; rw [if_neg (by show ¬ tm.length < 200; simp only [List.length_cons] at hb16; omega)]
    exact A_ireturn X dX9_abstractTerm_28 ⟨by rw [e9], by rw [e9]; exact ⟨hN, ⟨_, _, _, ((hfb _ (by omega)).trans lk_eq), htw⟩, (hX.keep ((hfb 56 (by omega)).trans (lk_ne (by omega) rfl))), (hT.keep ((hfb 57 (by omega)).trans (lk_ne (by omega) rfl))), hgd, (hR8.keep ((hfb 58 (by omega)).trans (lk_ne (by omega) rfl))), (hR9.keep ((hfb 59 (by omega)).trans (lk_ne (by omega) rfl))), hPb.2.choose_spec.mr, (hH.keep ((hfb 61 (by omega)).trans (lk_ne (by omega) rfl))), (hV.keep ((hfb 62 (by omega)).trans (lk_ne (by omega) rfl)) ((hfb 63 (by omega)).trans (lk_ne (by omega) rfl))), (hB.keep ((hfb 64 (by omega)).trans (lk_ne (by omega) rfl)) ((hfb 65 (by omega)).trans (lk_ne (by omega) rfl))), (hSc.keep ((hfb 66 (by omega)).trans (lk_ne (by omega) rfl)) ((hfb 67 (by omega)).trans (lk_ne (by omega) rfl)) ((hfb 68 (by omega)).trans (lk_ne (by omega) rfl))), (hWd.keep ((hfb 69 (by omega)).trans (lk_ne (by omega) rfl)) ((hfb 70 (by omega)).trans (lk_ne (by omega) rfl)) ((hfb 71 (by omega)).trans (lk_ne (by omega) rfl)))⟩, (fun k n0 => ((hfb k (by omega)).trans (lk_ne (by omega) rfl)))⟩
  · refine A_aload_n (q := 20) X dX9_abstractTerm_19 rfl rfl ?_
    have hW9 : WM G _ (tm, x, hs, s0, s1, o, sd) := ⟨hN, ⟨_, _, _, ((hfb _ (by omega)).trans lk_eq), htw⟩, (hX.keep ((hfb 56 (by omega)).trans (lk_ne (by omega) rfl))), (hT.keep ((hfb 57 (by omega)).trans (lk_ne (by omega) rfl))), hgd, (hR8.keep ((hfb 58 (by omega)).trans (lk_ne (by omega) rfl))), (hR9.keep ((hfb 59 (by omega)).trans (lk_ne (by omega) rfl))), hPb.2.choose_spec.mr, (hH.keep ((hfb 61 (by omega)).trans (lk_ne (by omega) rfl))), (hV.keep ((hfb 62 (by omega)).trans (lk_ne (by omega) rfl)) ((hfb 63 (by omega)).trans (lk_ne (by omega) rfl))), (hB.keep ((hfb 64 (by omega)).trans (lk_ne (by omega) rfl)) ((hfb 65 (by omega)).trans (lk_ne (by omega) rfl))), (hSc.keep ((hfb 66 (by omega)).trans (lk_ne (by omega) rfl)) ((hfb 67 (by omega)).trans (lk_ne (by omega) rfl)) ((hfb 68 (by omega)).trans (lk_ne (by omega) rfl))), (hWd.keep ((hfb 69 (by omega)).trans (lk_ne (by omega) rfl)) ((hfb 70 (by omega)).trans (lk_ne (by omega) rfl)) ((hfb 71 (by omega)).trans (lk_ne (by omega) rfl)))⟩
    refine A_V0i (q := 23) X (c_X9_commit hG hW9 (hPb.1 hb16) (Gd_abs hgd (by simp only [List.length_cons] at hb16; omega))) mX9_commit kX9_140 dX9_abstractTerm_20 (by omega) ((hfb _ (by omega)).trans lk_eq) rfl (by decide) (Nat.le_of_ble_eq_true rfl) rfl (fun vq_6 cq_5 hq_4 => ?_)
    obtain ⟨rfl, hWc, hfc9⟩ := hq_4
    refine A_goto (q := 28) X dX9_abstractTerm_23 rfl ?_
    have e9 : fAbs (tm, x, hs, s0, s1, o, sd) = (((((1001 : Int) :: tm).length : Nat) : Int), (((1001 : Int) :: tm), x, psh hs tm, s0, s1, o, sd)) := by unfold fAbs; rw [if_pos (by show tm.length < 200; simp only [List.length_cons] at hb16; omega)]; rfl
    exact A_ireturn X dX9_abstractTerm_28 ⟨by rw [e9], by rw [e9]; exact hWc, (fun k n0 => (hfc9 k n0).trans (((hfb k (by omega)).trans (lk_ne (by omega) rfl))))⟩
