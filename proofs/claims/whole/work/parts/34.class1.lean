/-! THE CLASS: simple calls -/
set_option maxRecDepth 100000 in
set_option maxHeartbeats 4000000 in
theorem c_X8_append {l : Launch} {G : Gm} {c : HP} {tm x : List Int} {hs : List (List Int)} {s0 s1 : List Int} {o : List (Int × Int)} {sd : Int64} {t : Int} (hG : injG G) (ht : rg t) (hW : WX G c (tm, x, hs, s0, s1, o, sd)) : AMet l G yX8_append cX8_append 2 ((some .int)) (rmR 1 21) [.ref (G.1 0), .int (zI t)] c (Qi (fun v c' => v = zI (fAppend t (tm, x, hs, s0, s1, o, sd)).1 ∧ WX G c' (fAppend t (tm, x, hs, s0, s1, o, sd)).2 ∧ (∀ k, 55 ≤ k → c' k = c k))) := by
  refine AMet.of (vl := [some (.ref (G.1 0)), some (.int (zI t))]) (by decide) hG (Nat.le_of_ble_eq_true rfl) rfl ?_
  intro K X
  have X : Fx l G K cX8_append 2 RX8 ((some .int)) (rmR 1 21) := X
  obtain ⟨hN, h0, ⟨T1, hT1, eT1, z1⟩, hgd, ⟨T3, hT3⟩, ⟨T5, hT5⟩, ⟨T7, hT7, eT7, z7⟩, hg7, ⟨T9, hT9, eT9, z9⟩, hg9, ⟨n11, E11, D11, hO11⟩, hRd, ⟨P0, Q0, X0, ap0, pk0, hM⟩, hH, hX, hB⟩ := hW
  dsimp only at h0 eT1 hgd eT7 hg7 eT9 hg9 hH hX hB
  subst eT1 eT7 eT9
  obtain ⟨p33, h33⟩ := hH.cell
  have hl1 := hT1.len
  have hl7 := hT7.len
  have hl9 := hT9.len
  have hxl := hX.2.1
  refine A_iload_n (q := 1) X dX8_append_0 rfl rfl ?_
  refine A_if_lt (q := 4) (t := 11) X dX8_append_1 (by omega) rfl rfl (fun hb1 => ?_) (fun hb1 => ?_)
  · refine A_bipush (q := 13) X dX8_append_11 (by decide) rfl ?_
    have e9 : fAppend t (T1.1, x, hs, T7.1, T9.1, o, sd) = (-2, (T1.1, x, hs, T7.1, T9.1, o, sd)) := by unfold fAppend; dsimp only; rw [if_pos (by omega)]
    exact A_ireturn X dX8_append_13 ⟨by rw [e9], by rw [e9]; exact ⟨hN, h0, ⟨_, hT1, rfl, z1⟩, hgd, ⟨_, hT3⟩, ⟨_, hT5⟩, ⟨_, hT7, rfl, z7⟩, hg7, ⟨_, hT9, rfl, z9⟩, hg9, ⟨_, _, _, hO11⟩, hRd, ⟨_, _, _, _, _, hM⟩, hH, hX, hB⟩, (fun k n0 => rfl)⟩
  · refine A_iload_n (q := 5) X dX8_append_4 rfl rfl ?_
    refine A_sipush (q := 8) X dX8_append_5 (by decide) rfl ?_
    refine A_icmp_le (q := 11) (t := 14) X dX8_append_8 (by omega) (by decide) rfl rfl (fun hb8 => ?_) (fun hb8 => ?_)
    · refine A_aload_n (q := 15) X dX8_append_14 rfl rfl ?_
      refine A_getf (q := 18) X fX8_59 dX8_append_15 (by omega) h0 rfl rfl ?_
      refine A_iload_n (q := 19) X dX8_append_18 rfl rfl ?_
      refine A_V1i (q := 22) X (c_X7_put (t := t) hG hN hX (by omega)) mX7_put kX8_78 dX8_append_19 (by omega) hX.1 rfl (by decide) (Nat.le_of_ble_eq_true rfl) rfl (fun vq_3 cq_2 hq_1 => ?_)
      obtain ⟨rfl, hpy, hpn, hpf⟩ := hq_1
      refine A_beq (q := 25) (t := 35) X dX8_append_22 rfl rfl (fun hb22 => ?_) (fun hb22 => ?_)
      · refine A_bipush (q := 37) X dX8_append_35 (by decide) rfl ?_
        obtain rfl := (hpn hb22).symm
        have e9 : fAppend t (T1.1, x, hs, T7.1, T9.1, o, sd) = (-4, (T1.1, x, hs, T7.1, T9.1, o, sd)) := by unfold fAppend; dsimp only; rw [if_neg (by omega), if_neg hb22]
        exact A_ireturn X dX8_append_37 ⟨by rw [e9], by rw [e9]; exact ⟨hN, h0, ⟨_, hT1, rfl, z1⟩, hgd, ⟨_, hT3⟩, ⟨_, hT5⟩, ⟨_, hT7, rfl, z7⟩, hg7, ⟨_, hT9, rfl, z9⟩, hg9, ⟨_, _, _, hO11⟩, hRd, ⟨_, _, _, _, _, hM⟩, hH, hX, hB⟩, (fun k n0 => rfl)⟩
      · have hX2 := hpy hb22
        refine A_aload_n (q := 26) X dX8_append_25 rfl rfl ?_
        refine A_getf (q := 29) X fX8_59 dX8_append_26 (by omega) ((hpf _ (by omega) (by omega)).trans h0) rfl rfl ?_
        refine A_V0i (q := 32) X (c_X7_length hG hN hX2) mX7_length kX8_82 dX8_append_29 (by omega) hX2.1 rfl (by decide) (Nat.le_of_ble_eq_true rfl) rfl (fun vq_6 cq_5 hq_4 => ?_)
        obtain ⟨rfl, hq_4⟩ := hq_4
        obtain rfl := hq_4.symm
        refine A_goto (q := 37) X dX8_append_32 rfl ?_
        have e9 : fAppend t (T1.1, x, hs, T7.1, T9.1, o, sd) = (((x.length : Nat) : Int) + 1, (T1.1, (x ++ [t]), hs, T7.1, T9.1, o, sd)) := by unfold fAppend; dsimp only; rw [if_neg (by omega), if_pos hb22]
        exact A_ireturn X dX8_append_37 ⟨by rw [e9, List.length_append]; rfl, by rw [e9]; exact ⟨hN, ((hpf _ (by omega) (by omega)).trans h0), ⟨_, (hT1.keep ((hpf 1 (by omega) (by omega)).trans rfl) ((hpf 2 (by omega) (by omega)).trans rfl)), rfl, z1⟩, hgd, ⟨_, (hT3.keep ((hpf 3 (by omega) (by omega)).trans rfl) ((hpf 4 (by omega) (by omega)).trans rfl))⟩, ⟨_, (hT5.keep ((hpf 5 (by omega) (by omega)).trans rfl) ((hpf 6 (by omega) (by omega)).trans rfl))⟩, ⟨_, (hT7.keep ((hpf 7 (by omega) (by omega)).trans rfl) ((hpf 8 (by omega) (by omega)).trans rfl)), rfl, z7⟩, hg7, ⟨_, (hT9.keep ((hpf 9 (by omega) (by omega)).trans rfl) ((hpf 10 (by omega) (by omega)).trans rfl)), rfl, z9⟩, hg9, ⟨_, _, _, (hO11.keep ((hpf 11 (by omega) (by omega)).trans rfl) ((hpf 12 (by omega) (by omega)).trans rfl) ((hpf 13 (by omega) (by omega)).trans rfl))⟩, (hRd.keep (fun k r0 r1 => ((hpf k (by omega) (by omega)).trans rfl))), ⟨_, _, _, _, _, (hM.keep (fun k r0 r1 => ((hpf k (by omega) (by omega)).trans rfl)))⟩, (hH.keep (fun k r0 => ((hpf k (by omega) (by omega)).trans rfl))), hX2, (hB.keep ((hpf 38 (by omega) (by omega)).trans rfl) ((hpf 39 (by omega) (by omega)).trans rfl) ((hpf 40 (by omega) (by omega)).trans rfl))⟩, (fun k n0 => ((hpf k (by omega) (by omega)).trans rfl))⟩
    · refine A_bipush (q := 13) X dX8_append_11 (by decide) rfl ?_
      have e9 : fAppend t (T1.1, x, hs, T7.1, T9.1, o, sd) = (-2, (T1.1, x, hs, T7.1, T9.1, o, sd)) := by unfold fAppend; dsimp only; rw [if_pos (by omega)]
      exact A_ireturn X dX8_append_13 ⟨by rw [e9], by rw [e9]; exact ⟨hN, h0, ⟨_, hT1, rfl, z1⟩, hgd, ⟨_, hT3⟩, ⟨_, hT5⟩, ⟨_, hT7, rfl, z7⟩, hg7, ⟨_, hT9, rfl, z9⟩, hg9, ⟨_, _, _, hO11⟩, hRd, ⟨_, _, _, _, _, hM⟩, hH, hX, hB⟩, (fun k n0 => rfl)⟩
set_option maxRecDepth 100000 in
set_option maxHeartbeats 4000000 in
theorem c_X8_clearText {l : Launch} {G : Gm} {c : HP} {tm x : List Int} {hs : List (List Int)} {s0 s1 : List Int} {o : List (Int × Int)} {sd : Int64} (hG : injG G)  (hW : WX G c (tm, x, hs, s0, s1, o, sd)) : AMet l G yX8_clearText cX8_clearText 2 ((some .int)) (rmR 1 20) [.ref (G.1 0)] c (Qi (fun v c' => v = zI (fClear (tm, x, hs, s0, s1, o, sd)).1 ∧ WX G c' (fClear (tm, x, hs, s0, s1, o, sd)).2 ∧ (∀ k, 55 ≤ k → c' k = c k))) := by
  refine AMet.of (vl := [some (.ref (G.1 0))]) (by decide) hG (Nat.le_of_ble_eq_true rfl) rfl ?_
  intro K X
  have X : Fx l G K cX8_clearText 2 RX8 ((some .int)) (rmR 1 20) := X
  obtain ⟨hN, h0, ⟨T1, hT1, eT1, z1⟩, hgd, ⟨T3, hT3⟩, ⟨T5, hT5⟩, ⟨T7, hT7, eT7, z7⟩, hg7, ⟨T9, hT9, eT9, z9⟩, hg9, ⟨n11, E11, D11, hO11⟩, hRd, ⟨P0, Q0, X0, ap0, pk0, hM⟩, hH, hX, hB⟩ := hW
  dsimp only at h0 eT1 hgd eT7 hg7 eT9 hg9 hH hX hB
  subst eT1 eT7 eT9
  obtain ⟨p33, h33⟩ := hH.cell
  have hl1 := hT1.len
  have hl7 := hT7.len
  have hl9 := hT9.len
  have hxl := hX.2.1
  refine A_aload_n (q := 1) X dX8_clearText_0 rfl rfl ?_
  refine A_getf (q := 4) X fX8_59 dX8_clearText_1 (by omega) h0 rfl rfl ?_
  refine A_V0i (q := 7) X (c_X7_length hG hN hX) mX7_length kX8_82 dX8_clearText_4 (by omega) hX.1 rfl (by decide) (Nat.le_of_ble_eq_true rfl) rfl (fun vq_3 cq_2 hq_1 => ?_)
  obtain ⟨rfl, hq_1⟩ := hq_1
  obtain rfl := hq_1.symm
  refine A_istore_n (q := 8) X dX8_clearText_7 (by decide) (okP_s rfl rfl) rfl ?_
  refine A_aload_n (q := 9) X dX8_clearText_8 rfl rfl ?_
  refine A_getf (q := 12) X fX8_59 dX8_clearText_9 (by omega) h0 rfl rfl ?_
  refine A_V0v (q := 15) X (c_X7_clear hG hN hX) mX7_clear kX8_86 dX8_clearText_12 (by omega) hX.1 rfl (by decide) (Nat.le_of_ble_eq_true rfl) rfl (fun cq_5 hq_4 => ?_)
  obtain ⟨hX_6, hf_7⟩ := hq_4
  refine A_iload_n (q := 16) X dX8_clearText_15 rfl rfl ?_
  have e9 : fClear (T1.1, x, hs, T7.1, T9.1, o, sd) = (((x.length : Nat) : Int), (T1.1, ([] : List Int), hs, T7.1, T9.1, o, sd)) := by rfl
  exact A_ireturn X dX8_clearText_16 ⟨by rw [e9], by rw [e9]; exact ⟨hN, ((hf_7 _ (by omega) (by omega)).trans h0), ⟨_, (hT1.keep ((hf_7 1 (by omega) (by omega)).trans rfl) ((hf_7 2 (by omega) (by omega)).trans rfl)), rfl, z1⟩, hgd, ⟨_, (hT3.keep ((hf_7 3 (by omega) (by omega)).trans rfl) ((hf_7 4 (by omega) (by omega)).trans rfl))⟩, ⟨_, (hT5.keep ((hf_7 5 (by omega) (by omega)).trans rfl) ((hf_7 6 (by omega) (by omega)).trans rfl))⟩, ⟨_, (hT7.keep ((hf_7 7 (by omega) (by omega)).trans rfl) ((hf_7 8 (by omega) (by omega)).trans rfl)), rfl, z7⟩, hg7, ⟨_, (hT9.keep ((hf_7 9 (by omega) (by omega)).trans rfl) ((hf_7 10 (by omega) (by omega)).trans rfl)), rfl, z9⟩, hg9, ⟨_, _, _, (hO11.keep ((hf_7 11 (by omega) (by omega)).trans rfl) ((hf_7 12 (by omega) (by omega)).trans rfl) ((hf_7 13 (by omega) (by omega)).trans rfl))⟩, (hRd.keep (fun k r0 r1 => ((hf_7 k (by omega) (by omega)).trans rfl))), ⟨_, _, _, _, _, (hM.keep (fun k r0 r1 => ((hf_7 k (by omega) (by omega)).trans rfl)))⟩, (hH.keep (fun k r0 => ((hf_7 k (by omega) (by omega)).trans rfl))), hX_6, (hB.keep ((hf_7 38 (by omega) (by omega)).trans rfl) ((hf_7 39 (by omega) (by omega)).trans rfl) ((hf_7 40 (by omega) (by omega)).trans rfl))⟩, (fun k n0 => ((hf_7 k (by omega) (by omega)).trans rfl))⟩
set_option maxRecDepth 100000 in
set_option maxHeartbeats 4000000 in
theorem c_X8_errorPosition {l : Launch} {G : Gm} {c : HP} {tm x : List Int} {hs : List (List Int)} {s0 s1 : List Int} {o : List (Int × Int)} {sd : Int64} (hG : injG G)  (hW : WX G c (tm, x, hs, s0, s1, o, sd)) : AMet l G yX8_errorPosition cX8_errorPosition 1 ((some .int)) (rmR 2 43) [.ref (G.1 0)] c (Qi (fun v c' => v = zI (fErr (tm, x, hs, s0, s1, o, sd)).1 ∧ WX G c' (fErr (tm, x, hs, s0, s1, o, sd)).2 ∧ (∀ k, 55 ≤ k → c' k = c k))) := by
  refine AMet.of (vl := [some (.ref (G.1 0))]) (by decide) hG (Nat.le_of_ble_eq_true rfl) rfl ?_
  intro K X
  have X : Fx l G K cX8_errorPosition 1 RX8 ((some .int)) (rmR 2 43) := X
  obtain ⟨hN, h0, ⟨T1, hT1, eT1, z1⟩, hgd, ⟨T3, hT3⟩, ⟨T5, hT5⟩, ⟨T7, hT7, eT7, z7⟩, hg7, ⟨T9, hT9, eT9, z9⟩, hg9, ⟨n11, E11, D11, hO11⟩, hRd, ⟨P0, Q0, X0, ap0, pk0, hM⟩, hH, hX, hB⟩ := hW
  dsimp only at h0 eT1 hgd eT7 hg7 eT9 hg9 hH hX hB
  subst eT1 eT7 eT9
  obtain ⟨p33, h33⟩ := hH.cell
  have hl1 := hT1.len
  have hl7 := hT7.len
  have hl9 := hT9.len
  have hxl := hX.2.1
  refine A_aload_n (q := 1) X dX8_errorPosition_0 rfl rfl ?_
  refine A_getf (q := 4) X fX8_59 dX8_errorPosition_1 (by omega) h0 rfl rfl ?_
  refine A_V0i (q := 7) X (c_X7_firstError hG hN hX) mX7_firstError kX8_89 dX8_errorPosition_4 (by omega) hX.1 rfl (by decide) (Nat.le_of_ble_eq_true rfl) rfl (fun vq_3 cq_2 hq_1 => ?_)
  obtain ⟨rfl, hq_1⟩ := hq_1
  obtain rfl := hq_1.symm
  have e9 : fErr (T1.1, x, hs, T7.1, T9.1, o, sd) = (erf x 1 0, (T1.1, x, hs, T7.1, T9.1, o, sd)) := by rfl
  exact A_ireturn X dX8_errorPosition_7 ⟨by rw [e9], by rw [e9]; exact ⟨hN, h0, ⟨_, hT1, rfl, z1⟩, hgd, ⟨_, hT3⟩, ⟨_, hT5⟩, ⟨_, hT7, rfl, z7⟩, hg7, ⟨_, hT9, rfl, z9⟩, hg9, ⟨_, _, _, hO11⟩, hRd, ⟨_, _, _, _, _, hM⟩, hH, hX, hB⟩, (fun k n0 => rfl)⟩
theorem erf_rg : ∀ (x : List Int) (n i : Nat), erf x n i = -9 ∨ (0 ≤ erf x n i ∧ erf x n i ≤ ((i + x.length : Nat) : Int))
  | [], n, i => by
    unfold erf
    split
    · exact Or.inl rfl
    · exact Or.inr ⟨by omega, by rw [List.length_nil]; omega⟩
  | c :: r, n, i => by
    unfold erf
    split
    · exact Or.inr ⟨by omega, by rw [List.length_cons]; omega⟩
    · rcases erf_rg r (n - 1 + prt (tkc c)) (i + 1) with h | h
      · exact Or.inl h
      · exact Or.inr ⟨h.1, by rw [List.length_cons]; omega⟩
set_option maxRecDepth 100000 in
set_option maxHeartbeats 4000000 in
theorem c_X8_load {l : Launch} {G : Gm} {c : HP} {tm x : List Int} {hs : List (List Int)} {s0 s1 : List Int} {o : List (Int × Int)} {sd : Int64} (hG : injG G)  (hW : WX G c (tm, x, hs, s0, s1, o, sd)) : AMet l G yX8_load cX8_load 1 ((some .int)) (rmR 2 43) [.ref (G.1 0)] c (Qi (fun v c' => v = zI (fLoad (tm, x, hs, s0, s1, o, sd)).1 ∧ WX G c' (fLoad (tm, x, hs, s0, s1, o, sd)).2 ∧ (∀ k, 55 ≤ k → c' k = c k))) := by
  refine AMet.of (vl := [some (.ref (G.1 0))]) (by decide) hG (Nat.le_of_ble_eq_true rfl) rfl ?_
  intro K X
  have X : Fx l G K cX8_load 1 RX8 ((some .int)) (rmR 2 43) := X
  obtain ⟨hN, h0, ⟨T1, hT1, eT1, z1⟩, hgd, ⟨T3, hT3⟩, ⟨T5, hT5⟩, ⟨T7, hT7, eT7, z7⟩, hg7, ⟨T9, hT9, eT9, z9⟩, hg9, ⟨n11, E11, D11, hO11⟩, hRd, ⟨P0, Q0, X0, ap0, pk0, hM⟩, hH, hX, hB⟩ := hW
  dsimp only at h0 eT1 hgd eT7 hg7 eT9 hg9 hH hX hB
  subst eT1 eT7 eT9
  obtain ⟨p33, h33⟩ := hH.cell
  have hl1 := hT1.len
  have hl7 := hT7.len
  have hl9 := hT9.len
  have hxl := hX.2.1
  refine A_aload_n (q := 1) X dX8_load_0 rfl rfl ?_
  refine A_getf (q := 4) X fX8_59 dX8_load_1 (by omega) h0 rfl rfl ?_
  refine A_V0i (q := 7) X (c_X7_firstError hG hN hX) mX7_firstError kX8_89 dX8_load_4 (by omega) hX.1 rfl (by decide) (Nat.le_of_ble_eq_true rfl) rfl (fun vq_3 cq_2 hq_1 => ?_)
  obtain ⟨rfl, hq_1⟩ := hq_1
  obtain rfl := hq_1.symm
  have herg := erf_rg x 1 0
  refine A_bipush (q := 9) X dX8_load_7 (by decide) rfl ?_
  refine A_icmp_eq (q := 12) (t := 15) X dX8_load_9 (by omega) (by decide) rfl rfl (fun hb9 => ?_) (fun hb9 => ?_)
  · refine A_aload_n (q := 16) X dX8_load_15 rfl rfl ?_
    refine A_getf (q := 19) X fX8_59 dX8_load_16 (by omega) h0 rfl rfl ?_
    refine A_aload_n (q := 20) X dX8_load_19 rfl rfl ?_
    refine A_getf (q := 23) X fX8_10 dX8_load_20 (by omega) h0 rfl rfl ?_
    refine A_V1v (q := 26) X (c_X7_writeTo hG hN hX hT1 (by omega) (by omega)) mX7_writeTo kX8_92 dX8_load_23 (by omega) hX.1 rfl (by decide) (Nat.le_of_ble_eq_true rfl) rfl (fun cq_5 hq_4 => ?_)
    obtain ⟨hT_6, hf_7⟩ := hq_4
    refine A_aload_n (q := 27) X dX8_load_26 rfl rfl ?_
    refine A_getf (q := 30) X fX8_52 dX8_load_27 (by omega) ((hf_7 _ (by omega) (by omega)).trans h0) rfl rfl ?_
    obtain ⟨p_8, h33x_9⟩ := (hH.keep (fun k r0 => ((hf_7 k (by omega) (by omega)).trans rfl))).cell
    refine A_V0v (q := 33) X (c_X1_forgetAll hG hN (hH.keep (fun k r0 => ((hf_7 k (by omega) (by omega)).trans rfl)))) mX1_forgetAll kX8_96 dX8_load_30 (by omega) h33x_9 rfl (by decide) (Nat.le_of_ble_eq_true rfl) rfl (fun cq_11 hq_10 => ?_)
    obtain ⟨hH_12, hf_13⟩ := hq_10
    refine A_aload_n (q := 34) X dX8_load_33 rfl rfl ?_
    refine A_getf (q := 37) X fX8_22 dX8_load_34 (by omega) ((hf_13 _ (by omega)).trans ((hf_7 _ (by omega) (by omega)).trans h0)) rfl rfl ?_
    refine A_V0v (q := 40) X (c_X6_clear hG (hT7.keep ((hf_13 7 (by omega)).trans ((hf_7 7 (by omega) (by omega)).trans rfl)) ((hf_13 8 (by omega)).trans ((hf_7 8 (by omega) (by omega)).trans rfl)))) mX6_clear kX8_99 dX8_load_37 (by omega) (hT7.keep ((hf_13 7 (by omega)).trans ((hf_7 7 (by omega) (by omega)).trans rfl)) ((hf_13 8 (by omega)).trans ((hf_7 8 (by omega) (by omega)).trans rfl))).cell rfl (by decide) (Nat.le_of_ble_eq_true rfl) rfl (fun cq_15 hq_14 => ?_)
    obtain ⟨hT_16, hf_17⟩ := hq_14
    refine A_aload_n (q := 41) X dX8_load_40 rfl rfl ?_
    refine A_getf (q := 44) X fX8_25 dX8_load_41 (by omega) ((hf_17 _ (by omega) (by omega)).trans ((hf_13 _ (by omega)).trans ((hf_7 _ (by omega) (by omega)).trans h0))) rfl rfl ?_
    refine A_V0v (q := 47) X (c_X6_clear hG (hT9.keep ((hf_17 9 (by omega) (by omega)).trans ((hf_13 9 (by omega)).trans ((hf_7 9 (by omega) (by omega)).trans rfl))) ((hf_17 10 (by omega) (by omega)).trans ((hf_13 10 (by omega)).trans ((hf_7 10 (by omega) (by omega)).trans rfl))))) mX6_clear kX8_99 dX8_load_44 (by omega) (hT9.keep ((hf_17 9 (by omega) (by omega)).trans ((hf_13 9 (by omega)).trans ((hf_7 9 (by omega) (by omega)).trans rfl))) ((hf_17 10 (by omega) (by omega)).trans ((hf_13 10 (by omega)).trans ((hf_7 10 (by omega) (by omega)).trans rfl)))).cell rfl (by decide) (Nat.le_of_ble_eq_true rfl) rfl (fun cq_19 hq_18 => ?_)
    obtain ⟨hT_20, hf_21⟩ := hq_18
    refine A_aload_n (q := 48) X dX8_load_47 rfl rfl ?_
    refine A_getf (q := 51) X fX8_10 dX8_load_48 (by omega) ((hf_21 _ (by omega) (by omega)).trans ((hf_17 _ (by omega) (by omega)).trans ((hf_13 _ (by omega)).trans ((hf_7 _ (by omega) (by omega)).trans h0)))) rfl rfl ?_
    refine A_V0i (q := 54) X (c_X6_length hG (hT_6.keep ((hf_21 1 (by omega) (by omega)).trans ((hf_17 1 (by omega) (by omega)).trans ((hf_13 1 (by omega)).trans rfl))) ((hf_21 2 (by omega) (by omega)).trans ((hf_17 2 (by omega) (by omega)).trans ((hf_13 2 (by omega)).trans rfl))))) mX6_length kX8_100 dX8_load_51 (by omega) (hT_6.keep ((hf_21 1 (by omega) (by omega)).trans ((hf_17 1 (by omega) (by omega)).trans ((hf_13 1 (by omega)).trans rfl))) ((hf_21 2 (by omega) (by omega)).trans ((hf_17 2 (by omega) (by omega)).trans ((hf_13 2 (by omega)).trans rfl)))).cell rfl (by decide) (Nat.le_of_ble_eq_true rfl) rfl (fun vq_24 cq_23 hq_22 => ?_)
    obtain ⟨rfl, hq_22⟩ := hq_22
    obtain rfl := hq_22.symm
    have e9 : fLoad (T1.1, x, hs, T7.1, T9.1, o, sd) = (((x.length : Nat) : Int), (((x.map tkc, 0) : List Int × Int).1, x, ([] : List (List Int)), (([], 0) : List Int × Int).1, (([], 0) : List Int × Int).1, o, sd)) := by unfold fLoad; dsimp only; rw [if_pos (by omega)]
    exact A_ireturn X dX8_load_54 ⟨by rw [e9]; show zI (((x.map tkc).length : Nat) : Int) = _; rw [List.length_map], by rw [e9]; exact ⟨hN, ((hf_21 _ (by omega) (by omega)).trans ((hf_17 _ (by omega) (by omega)).trans ((hf_13 _ (by omega)).trans ((hf_7 _ (by omega) (by omega)).trans h0)))), ⟨_, (hT_6.keep ((hf_21 1 (by omega) (by omega)).trans ((hf_17 1 (by omega) (by omega)).trans ((hf_13 1 (by omega)).trans rfl))) ((hf_21 2 (by omega) (by omega)).trans ((hf_17 2 (by omega) (by omega)).trans ((hf_13 2 (by omega)).trans rfl)))), rfl, rfl⟩, (Gd_text (by omega) hxl), ⟨_, (hT3.keep ((hf_21 3 (by omega) (by omega)).trans ((hf_17 3 (by omega) (by omega)).trans ((hf_13 3 (by omega)).trans ((hf_7 3 (by omega) (by omega)).trans rfl)))) ((hf_21 4 (by omega) (by omega)).trans ((hf_17 4 (by omega) (by omega)).trans ((hf_13 4 (by omega)).trans ((hf_7 4 (by omega) (by omega)).trans rfl)))))⟩, ⟨_, (hT5.keep ((hf_21 5 (by omega) (by omega)).trans ((hf_17 5 (by omega) (by omega)).trans ((hf_13 5 (by omega)).trans ((hf_7 5 (by omega) (by omega)).trans rfl)))) ((hf_21 6 (by omega) (by omega)).trans ((hf_17 6 (by omega) (by omega)).trans ((hf_13 6 (by omega)).trans ((hf_7 6 (by omega) (by omega)).trans rfl)))))⟩, ⟨_, (hT_16.keep ((hf_21 7 (by omega) (by omega)).trans rfl) ((hf_21 8 (by omega) (by omega)).trans rfl)), rfl, rfl⟩, (Or.inl rfl), ⟨_, hT_20, rfl, rfl⟩, (Or.inl rfl), ⟨_, _, _, (hO11.keep ((hf_21 11 (by omega) (by omega)).trans ((hf_17 11 (by omega) (by omega)).trans ((hf_13 11 (by omega)).trans ((hf_7 11 (by omega) (by omega)).trans rfl)))) ((hf_21 12 (by omega) (by omega)).trans ((hf_17 12 (by omega) (by omega)).trans ((hf_13 12 (by omega)).trans ((hf_7 12 (by omega) (by omega)).trans rfl)))) ((hf_21 13 (by omega) (by omega)).trans ((hf_17 13 (by omega) (by omega)).trans ((hf_13 13 (by omega)).trans ((hf_7 13 (by omega) (by omega)).trans rfl)))))⟩, (hRd.keep (fun k r0 r1 => ((hf_21 k (by omega) (by omega)).trans ((hf_17 k (by omega) (by omega)).trans ((hf_13 k (by omega)).trans ((hf_7 k (by omega) (by omega)).trans rfl)))))), ⟨_, _, _, _, _, (hM.keep (fun k r0 r1 => ((hf_21 k (by omega) (by omega)).trans ((hf_17 k (by omega) (by omega)).trans ((hf_13 k (by omega)).trans ((hf_7 k (by omega) (by omega)).trans rfl))))))⟩, (hH_12.keep (fun k r0 => ((hf_21 k (by omega) (by omega)).trans ((hf_17 k (by omega) (by omega)).trans rfl)))), (hX.keep ((hf_21 36 (by omega) (by omega)).trans ((hf_17 36 (by omega) (by omega)).trans ((hf_13 36 (by omega)).trans ((hf_7 36 (by omega) (by omega)).trans rfl)))) ((hf_21 37 (by omega) (by omega)).trans ((hf_17 37 (by omega) (by omega)).trans ((hf_13 37 (by omega)).trans ((hf_7 37 (by omega) (by omega)).trans rfl))))), (hB.keep ((hf_21 38 (by omega) (by omega)).trans ((hf_17 38 (by omega) (by omega)).trans ((hf_13 38 (by omega)).trans ((hf_7 38 (by omega) (by omega)).trans rfl)))) ((hf_21 39 (by omega) (by omega)).trans ((hf_17 39 (by omega) (by omega)).trans ((hf_13 39 (by omega)).trans ((hf_7 39 (by omega) (by omega)).trans rfl)))) ((hf_21 40 (by omega) (by omega)).trans ((hf_17 40 (by omega) (by omega)).trans ((hf_13 40 (by omega)).trans ((hf_7 40 (by omega) (by omega)).trans rfl)))))⟩, (fun k n0 => ((hf_21 k (by omega) (by omega)).trans ((hf_17 k (by omega) (by omega)).trans ((hf_13 k (by omega)).trans ((hf_7 k (by omega) (by omega)).trans rfl)))))⟩
  · refine A_bipush (q := 14) X dX8_load_12 (by decide) rfl ?_
    have e9 : fLoad (T1.1, x, hs, T7.1, T9.1, o, sd) = (-3, (T1.1, x, hs, T7.1, T9.1, o, sd)) := by unfold fLoad; dsimp only; rw [if_neg (by omega)]
    exact A_ireturn X dX8_load_14 ⟨by rw [e9], by rw [e9]; exact ⟨hN, h0, ⟨_, hT1, rfl, z1⟩, hgd, ⟨_, hT3⟩, ⟨_, hT5⟩, ⟨_, hT7, rfl, z7⟩, hg7, ⟨_, hT9, rfl, z9⟩, hg9, ⟨_, _, _, hO11⟩, hRd, ⟨_, _, _, _, _, hM⟩, hH, hX, hB⟩, (fun k n0 => rfl)⟩
set_option maxRecDepth 100000 in
set_option maxHeartbeats 4000000 in
theorem c_X8_size {l : Launch} {G : Gm} {c : HP} {tm x : List Int} {hs : List (List Int)} {s0 s1 : List Int} {o : List (Int × Int)} {sd : Int64} (hG : injG G)  (hW : WX G c (tm, x, hs, s0, s1, o, sd)) : AMet l G yX8_size cX8_size 1 ((some .int)) (rmR 1 20) [.ref (G.1 0)] c (Qi (fun v c' => v = zI (fSize (tm, x, hs, s0, s1, o, sd)).1 ∧ WX G c' (fSize (tm, x, hs, s0, s1, o, sd)).2 ∧ (∀ k, 55 ≤ k → c' k = c k))) := by
  refine AMet.of (vl := [some (.ref (G.1 0))]) (by decide) hG (Nat.le_of_ble_eq_true rfl) rfl ?_
  intro K X
  have X : Fx l G K cX8_size 1 RX8 ((some .int)) (rmR 1 20) := X
  obtain ⟨hN, h0, ⟨T1, hT1, eT1, z1⟩, hgd, ⟨T3, hT3⟩, ⟨T5, hT5⟩, ⟨T7, hT7, eT7, z7⟩, hg7, ⟨T9, hT9, eT9, z9⟩, hg9, ⟨n11, E11, D11, hO11⟩, hRd, ⟨P0, Q0, X0, ap0, pk0, hM⟩, hH, hX, hB⟩ := hW
  dsimp only at h0 eT1 hgd eT7 hg7 eT9 hg9 hH hX hB
  subst eT1 eT7 eT9
  obtain ⟨p33, h33⟩ := hH.cell
  have hl1 := hT1.len
  have hl7 := hT7.len
  have hl9 := hT9.len
  have hxl := hX.2.1
  refine A_aload_n (q := 1) X dX8_size_0 rfl rfl ?_
  refine A_getf (q := 4) X fX8_10 dX8_size_1 (by omega) h0 rfl rfl ?_
  refine A_V0i (q := 7) X (c_X6_length hG hT1) mX6_length kX8_100 dX8_size_4 (by omega) hT1.cell rfl (by decide) (Nat.le_of_ble_eq_true rfl) rfl (fun vq_3 cq_2 hq_1 => ?_)
  obtain ⟨rfl, hq_1⟩ := hq_1
  obtain rfl := hq_1.symm
  have e9 : fSize (T1.1, x, hs, T7.1, T9.1, o, sd) = (((T1.1.length : Nat) : Int), (T1.1, x, hs, T7.1, T9.1, o, sd)) := by rfl
  exact A_ireturn X dX8_size_7 ⟨by rw [e9], by rw [e9]; exact ⟨hN, h0, ⟨_, hT1, rfl, z1⟩, hgd, ⟨_, hT3⟩, ⟨_, hT5⟩, ⟨_, hT7, rfl, z7⟩, hg7, ⟨_, hT9, rfl, z9⟩, hg9, ⟨_, _, _, hO11⟩, hRd, ⟨_, _, _, _, _, hM⟩, hH, hX, hB⟩, (fun k n0 => rfl)⟩
set_option maxRecDepth 100000 in
set_option maxHeartbeats 4000000 in
theorem c_X8_tokenAt {l : Launch} {G : Gm} {c : HP} {tm x : List Int} {hs : List (List Int)} {s0 s1 : List Int} {o : List (Int × Int)} {sd : Int64} {p : Int} (hG : injG G) (hp : rg p) (hW : WX G c (tm, x, hs, s0, s1, o, sd)) : AMet l G yX8_tokenAt cX8_tokenAt 2 ((some .int)) (rmR 1 21) [.ref (G.1 0), .int (zI p)] c (Qi (fun v c' => v = zI (fTok p (tm, x, hs, s0, s1, o, sd)).1 ∧ WX G c' (fTok p (tm, x, hs, s0, s1, o, sd)).2 ∧ (∀ k, 55 ≤ k → c' k = c k))) := by
  refine AMet.of (vl := [some (.ref (G.1 0)), some (.int (zI p))]) (by decide) hG (Nat.le_of_ble_eq_true rfl) rfl ?_
  intro K X
  have X : Fx l G K cX8_tokenAt 2 RX8 ((some .int)) (rmR 1 21) := X
  obtain ⟨hN, h0, ⟨T1, hT1, eT1, z1⟩, hgd, ⟨T3, hT3⟩, ⟨T5, hT5⟩, ⟨T7, hT7, eT7, z7⟩, hg7, ⟨T9, hT9, eT9, z9⟩, hg9, ⟨n11, E11, D11, hO11⟩, hRd, ⟨P0, Q0, X0, ap0, pk0, hM⟩, hH, hX, hB⟩ := hW
  dsimp only at h0 eT1 hgd eT7 hg7 eT9 hg9 hH hX hB
  subst eT1 eT7 eT9
  obtain ⟨p33, h33⟩ := hH.cell
  have hl1 := hT1.len
  have hl7 := hT7.len
  have hl9 := hT9.len
  have hxl := hX.2.1
  refine A_aload_n (q := 1) X dX8_tokenAt_0 rfl rfl ?_
  refine A_getf (q := 4) X fX8_10 dX8_tokenAt_1 (by omega) h0 rfl rfl ?_
  refine A_iload_n (q := 5) X dX8_tokenAt_4 rfl rfl ?_
  refine A_V1i (q := 8) X (c_X6_has hG hT1 (by omega)) mX6_has kX8_101 dX8_tokenAt_5 (by omega) hT1.cell rfl (by decide) (Nat.le_of_ble_eq_true rfl) rfl (fun vq_3 cq_2 hq_1 => ?_)
  obtain ⟨rfl, hq_1⟩ := hq_1
  obtain rfl := hq_1.symm
  refine A_beq (q := 11) (t := 22) X dX8_tokenAt_8 rfl rfl (fun hb8 => ?_) (fun hb8 => ?_)
  · refine A_iconst (q := 23) X dX8_tokenAt_22 rfl ?_
    have e9 : fTok p (T1.1, x, hs, T7.1, T9.1, o, sd) = (-1, (T1.1, x, hs, T7.1, T9.1, o, sd)) := by unfold fTok tokA; dsimp only; rw [if_neg (by omega)]
    exact A_ireturn X dX8_tokenAt_23 ⟨by rw [e9], by rw [e9]; exact ⟨hN, h0, ⟨_, hT1, rfl, z1⟩, hgd, ⟨_, hT3⟩, ⟨_, hT5⟩, ⟨_, hT7, rfl, z7⟩, hg7, ⟨_, hT9, rfl, z9⟩, hg9, ⟨_, _, _, hO11⟩, hRd, ⟨_, _, _, _, _, hM⟩, hH, hX, hB⟩, (fun k n0 => rfl)⟩
  · refine A_aload_n (q := 12) X dX8_tokenAt_11 rfl rfl ?_
    refine A_getf (q := 15) X fX8_10 dX8_tokenAt_12 (by omega) h0 rfl rfl ?_
    refine A_iload_n (q := 16) X dX8_tokenAt_15 rfl rfl ?_
    refine A_V1i (q := 19) X (c_X6_token hG hT1 (by omega)) mX6_token kX8_104 dX8_tokenAt_16 (by omega) hT1.cell rfl (by decide) (Nat.le_of_ble_eq_true rfl) rfl (fun vq_6 cq_5 hq_4 => ?_)
    obtain ⟨rfl, hq_4⟩ := hq_4
    obtain rfl := hq_4.symm
    refine A_goto (q := 23) X dX8_tokenAt_19 rfl ?_
    have e9 : fTok p (T1.1, x, hs, T7.1, T9.1, o, sd) = (tokA T1.1 p, (T1.1, x, hs, T7.1, T9.1, o, sd)) := by rfl
    exact A_ireturn X dX8_tokenAt_23 ⟨by rw [e9], by rw [e9]; exact ⟨hN, h0, ⟨_, hT1, rfl, z1⟩, hgd, ⟨_, hT3⟩, ⟨_, hT5⟩, ⟨_, hT7, rfl, z7⟩, hg7, ⟨_, hT9, rfl, z9⟩, hg9, ⟨_, _, _, hO11⟩, hRd, ⟨_, _, _, _, _, hM⟩, hH, hX, hB⟩, (fun k n0 => rfl)⟩
set_option maxRecDepth 100000 in
set_option maxHeartbeats 4000000 in
theorem c_X8_nameAt {l : Launch} {G : Gm} {c : HP} {tm x : List Int} {hs : List (List Int)} {s0 s1 : List Int} {o : List (Int × Int)} {sd : Int64} {p : Int} (hG : injG G) (hp : rg p) (hW : WX G c (tm, x, hs, s0, s1, o, sd)) : AMet l G yX8_nameAt cX8_nameAt 4 ((some .int)) (rmR 3 66) [.ref (G.1 0), .int (zI p)] c (Qi (fun v c' => v = zI (fName p (tm, x, hs, s0, s1, o, sd)).1 ∧ WX G c' (fName p (tm, x, hs, s0, s1, o, sd)).2 ∧ (∀ k, 55 ≤ k → c' k = c k))) := by
  refine AMet.of (vl := [some (.ref (G.1 0)), some (.int (zI p))]) (by decide) hG (Nat.le_of_ble_eq_true rfl) rfl ?_
  intro K X
  have X : Fx l G K cX8_nameAt 4 RX8 ((some .int)) (rmR 3 66) := X
  obtain ⟨hN, h0, ⟨T1, hT1, eT1, z1⟩, hgd, ⟨T3, hT3⟩, ⟨T5, hT5⟩, ⟨T7, hT7, eT7, z7⟩, hg7, ⟨T9, hT9, eT9, z9⟩, hg9, ⟨n11, E11, D11, hO11⟩, hRd, ⟨P0, Q0, X0, ap0, pk0, hM⟩, hH, hX, hB⟩ := hW
  dsimp only at h0 eT1 hgd eT7 hg7 eT9 hg9 hH hX hB
  subst eT1 eT7 eT9
  obtain ⟨p33, h33⟩ := hH.cell
  have hl1 := hT1.len
  have hl7 := hT7.len
  have hl9 := hT9.len
  have hxl := hX.2.1
  refine A_aload_n (q := 1) X dX8_nameAt_0 rfl rfl ?_
  refine A_getf (q := 4) X fX8_10 dX8_nameAt_1 (by omega) h0 rfl rfl ?_
  refine A_iload_n (q := 5) X dX8_nameAt_4 rfl rfl ?_
  refine A_V1i (q := 8) X (c_X6_has hG hT1 (by omega)) mX6_has kX8_101 dX8_nameAt_5 (by omega) hT1.cell rfl (by decide) (Nat.le_of_ble_eq_true rfl) rfl (fun vq_3 cq_2 hq_1 => ?_)
  obtain ⟨rfl, hq_1⟩ := hq_1
  obtain rfl := hq_1.symm
  refine A_bne (q := 11) (t := 13) X dX8_nameAt_8 rfl rfl (fun hb8 => ?_) (fun hb8 => ?_)
  · refine A_aload_n (q := 14) X dX8_nameAt_13 rfl rfl ?_
    refine A_getf (q := 17) X fX8_10 dX8_nameAt_14 (by omega) h0 rfl rfl ?_
    refine A_iload_n (q := 18) X dX8_nameAt_17 rfl rfl ?_
    refine A_V1i (q := 21) X (c_X6_token hG hT1 (by omega)) mX6_token kX8_104 dX8_nameAt_18 (by omega) hT1.cell rfl (by decide) (Nat.le_of_ble_eq_true rfl) rfl (fun vq_6 cq_5 hq_4 => ?_)
    obtain ⟨rfl, hq_4⟩ := hq_4
    obtain rfl := hq_4.symm
    refine A_istore_n (q := 22) X dX8_nameAt_21 (by decide) (okP_s rfl rfl) rfl ?_
    have etk : tokA T1.1 p = T1.1.getD p.toNat 0 := by unfold tokA; rw [if_pos (by omega)]
    have htk := hgd.at (i := p.toNat) (by omega)
    rw [etk]
    refine A_iload_n (q := 23) X dX8_nameAt_22 rfl rfl ?_
    refine A_sipush (q := 26) X dX8_nameAt_23 (by decide) rfl ?_
    refine A_icmp_ne (q := 29) (t := 32) X dX8_nameAt_26 (by omega) (by decide) rfl rfl (fun hb26 => ?_) (fun hb26 => ?_)
    · refine A_aload_n (q := 33) X dX8_nameAt_32 rfl rfl ?_
      refine A_getf (q := 36) X fX8_31 dX8_nameAt_33 (by omega) h0 rfl rfl ?_
      refine A_aload_n (q := 37) X dX8_nameAt_36 rfl rfl ?_
      refine A_getf (q := 40) X fX8_10 dX8_nameAt_37 (by omega) h0 rfl rfl ?_
      refine A_V1v (q := 43) X (c_X4_measure hG hgd (by omega) (by omega) (by omega) (by omega) (by omega) (by omega) hT1 hO11) mX4_measure kX8_108 dX8_nameAt_40 (by omega) hO11.cell rfl (by decide) (Nat.le_of_ble_eq_true rfl) rfl (fun cq_8 hq_7 => ?_)
      obtain ⟨E_9, D_10, hO_11, hE_12, hD_13, hf_14⟩ := hq_7
      refine A_aload_n (q := 44) X dX8_nameAt_43 rfl rfl ?_
      refine A_getf (q := 47) X fX8_31 dX8_nameAt_44 (by omega) ((hf_14 _ (by omega) (by omega) (by omega)).trans h0) rfl rfl ?_
      refine A_iload_n (q := 48) X dX8_nameAt_47 rfl rfl ?_
      refine A_V1i (q := 51) X (c_X4_depthAt hG hO_11 (by omega)) mX4_depthAt kX8_111 dX8_nameAt_48 (by omega) hO_11.cell rfl (by decide) (Nat.le_of_ble_eq_true rfl) rfl (fun vq_17 cq_16 hq_15 => ?_)
      obtain ⟨rfl, hq_15⟩ := hq_15
      obtain rfl := hq_15.symm
      rw [olD_in (k := p.toNat) hD_13 (by omega) (by omega)]
      have hdl := dp_le T1.1 p.toNat
      refine A_istore_n (q := 52) X dX8_nameAt_51 (by decide) (okP_s rfl rfl) rfl ?_
      refine A_iload_n (q := 53) X dX8_nameAt_52 rfl rfl ?_
      refine A_sipush (q := 56) X dX8_nameAt_53 (by decide) rfl ?_
      refine A_icmp_ne (q := 59) (t := 64) X dX8_nameAt_56 (by omega) (by decide) rfl rfl (fun hb56 => ?_) (fun hb56 => ?_)
      · refine A_iload_n (q := 65) X dX8_nameAt_64 rfl rfl ?_
        refine A_iload_n (q := 66) X dX8_nameAt_65 rfl rfl ?_
        refine A_icmp_ge (q := 69) (t := 80) X dX8_nameAt_66 (by omega) (by omega) rfl rfl (fun hb66 => ?_) (fun hb66 => ?_)
        · refine A_bipush (q := 82) X dX8_nameAt_80 (by decide) rfl ?_
          refine A_iload_n (q := 83) X dX8_nameAt_82 rfl rfl ?_
          refine A_iadd (q := 84) X dX8_nameAt_83 rfl ?_
          refine A_iload_n (q := 85) X dX8_nameAt_84 rfl rfl ?_
          refine A_isub (q := 86) X dX8_nameAt_85 rfl ?_
          have e9 : fName p (T1.1, x, hs, T7.1, T9.1, o, sd) = (65 + T1.1.getD p.toNat 0 - ((dp T1.1 p.toNat : Nat) : Int), (T1.1, x, hs, T7.1, T9.1, o, sd)) := by unfold fName; dsimp only; rw [if_pos (by omega)]; unfold nmZ; repeat (first | rw [if_pos (by omega)] | rw [if_neg (by omega)])
          exact A_ireturn X dX8_nameAt_86 ⟨by rw [e9], by rw [e9]; exact ⟨hN, ((hf_14 _ (by omega) (by omega) (by omega)).trans h0), ⟨_, (hT1.keep ((hf_14 1 (by omega) (by omega) (by omega)).trans rfl) ((hf_14 2 (by omega) (by omega) (by omega)).trans rfl)), rfl, z1⟩, hgd, ⟨_, (hT3.keep ((hf_14 3 (by omega) (by omega) (by omega)).trans rfl) ((hf_14 4 (by omega) (by omega) (by omega)).trans rfl))⟩, ⟨_, (hT5.keep ((hf_14 5 (by omega) (by omega) (by omega)).trans rfl) ((hf_14 6 (by omega) (by omega) (by omega)).trans rfl))⟩, ⟨_, (hT7.keep ((hf_14 7 (by omega) (by omega) (by omega)).trans rfl) ((hf_14 8 (by omega) (by omega) (by omega)).trans rfl)), rfl, z7⟩, hg7, ⟨_, (hT9.keep ((hf_14 9 (by omega) (by omega) (by omega)).trans rfl) ((hf_14 10 (by omega) (by omega) (by omega)).trans rfl)), rfl, z9⟩, hg9, ⟨_, _, _, hO_11⟩, (hRd.keep (fun k r0 r1 => ((hf_14 k (by omega) (by omega) (by omega)).trans rfl))), ⟨_, _, _, _, _, (hM.keep (fun k r0 r1 => ((hf_14 k (by omega) (by omega) (by omega)).trans rfl)))⟩, (hH.keep (fun k r0 => ((hf_14 k (by omega) (by omega) (by omega)).trans rfl))), (hX.keep ((hf_14 36 (by omega) (by omega) (by omega)).trans rfl) ((hf_14 37 (by omega) (by omega) (by omega)).trans rfl)), (hB.keep ((hf_14 38 (by omega) (by omega) (by omega)).trans rfl) ((hf_14 39 (by omega) (by omega) (by omega)).trans rfl) ((hf_14 40 (by omega) (by omega) (by omega)).trans rfl))⟩, (fun k n0 => ((hf_14 k (by omega) (by omega) (by omega)).trans rfl))⟩
        · refine A_bipush (q := 71) X dX8_nameAt_69 (by decide) rfl ?_
          refine A_iload_n (q := 72) X dX8_nameAt_71 rfl rfl ?_
          refine A_iadd (q := 73) X dX8_nameAt_72 rfl ?_
          refine A_iconst (q := 74) X dX8_nameAt_73 rfl ?_
          refine A_isub (q := 75) X dX8_nameAt_74 rfl ?_
          refine A_iload_n (q := 76) X dX8_nameAt_75 rfl rfl ?_
          refine A_isub (q := 77) X dX8_nameAt_76 rfl ?_
          refine A_goto (q := 86) X dX8_nameAt_77 rfl ?_
          have e9 : fName p (T1.1, x, hs, T7.1, T9.1, o, sd) = (97 + ((dp T1.1 p.toNat : Nat) : Int) - 1 - T1.1.getD p.toNat 0, (T1.1, x, hs, T7.1, T9.1, o, sd)) := by unfold fName; dsimp only; rw [if_pos (by omega)]; unfold nmZ; repeat (first | rw [if_pos (by omega)] | rw [if_neg (by omega)])
          exact A_ireturn X dX8_nameAt_86 ⟨by rw [e9], by rw [e9]; exact ⟨hN, ((hf_14 _ (by omega) (by omega) (by omega)).trans h0), ⟨_, (hT1.keep ((hf_14 1 (by omega) (by omega) (by omega)).trans rfl) ((hf_14 2 (by omega) (by omega) (by omega)).trans rfl)), rfl, z1⟩, hgd, ⟨_, (hT3.keep ((hf_14 3 (by omega) (by omega) (by omega)).trans rfl) ((hf_14 4 (by omega) (by omega) (by omega)).trans rfl))⟩, ⟨_, (hT5.keep ((hf_14 5 (by omega) (by omega) (by omega)).trans rfl) ((hf_14 6 (by omega) (by omega) (by omega)).trans rfl))⟩, ⟨_, (hT7.keep ((hf_14 7 (by omega) (by omega) (by omega)).trans rfl) ((hf_14 8 (by omega) (by omega) (by omega)).trans rfl)), rfl, z7⟩, hg7, ⟨_, (hT9.keep ((hf_14 9 (by omega) (by omega) (by omega)).trans rfl) ((hf_14 10 (by omega) (by omega) (by omega)).trans rfl)), rfl, z9⟩, hg9, ⟨_, _, _, hO_11⟩, (hRd.keep (fun k r0 r1 => ((hf_14 k (by omega) (by omega) (by omega)).trans rfl))), ⟨_, _, _, _, _, (hM.keep (fun k r0 r1 => ((hf_14 k (by omega) (by omega) (by omega)).trans rfl)))⟩, (hH.keep (fun k r0 => ((hf_14 k (by omega) (by omega) (by omega)).trans rfl))), (hX.keep ((hf_14 36 (by omega) (by omega) (by omega)).trans rfl) ((hf_14 37 (by omega) (by omega) (by omega)).trans rfl)), (hB.keep ((hf_14 38 (by omega) (by omega) (by omega)).trans rfl) ((hf_14 39 (by omega) (by omega) (by omega)).trans rfl) ((hf_14 40 (by omega) (by omega) (by omega)).trans rfl))⟩, (fun k n0 => ((hf_14 k (by omega) (by omega) (by omega)).trans rfl))⟩
      · refine A_bipush (q := 61) X dX8_nameAt_59 (by decide) rfl ?_
        refine A_iload_n (q := 62) X dX8_nameAt_61 rfl rfl ?_
        refine A_iadd (q := 63) X dX8_nameAt_62 rfl ?_
        have e9 : fName p (T1.1, x, hs, T7.1, T9.1, o, sd) = (97 + ((dp T1.1 p.toNat : Nat) : Int), (T1.1, x, hs, T7.1, T9.1, o, sd)) := by unfold fName; dsimp only; rw [if_pos (by omega)]; unfold nmZ; repeat (first | rw [if_pos (by omega)] | rw [if_neg (by omega)])
        exact A_ireturn X dX8_nameAt_63 ⟨by rw [e9], by rw [e9]; exact ⟨hN, ((hf_14 _ (by omega) (by omega) (by omega)).trans h0), ⟨_, (hT1.keep ((hf_14 1 (by omega) (by omega) (by omega)).trans rfl) ((hf_14 2 (by omega) (by omega) (by omega)).trans rfl)), rfl, z1⟩, hgd, ⟨_, (hT3.keep ((hf_14 3 (by omega) (by omega) (by omega)).trans rfl) ((hf_14 4 (by omega) (by omega) (by omega)).trans rfl))⟩, ⟨_, (hT5.keep ((hf_14 5 (by omega) (by omega) (by omega)).trans rfl) ((hf_14 6 (by omega) (by omega) (by omega)).trans rfl))⟩, ⟨_, (hT7.keep ((hf_14 7 (by omega) (by omega) (by omega)).trans rfl) ((hf_14 8 (by omega) (by omega) (by omega)).trans rfl)), rfl, z7⟩, hg7, ⟨_, (hT9.keep ((hf_14 9 (by omega) (by omega) (by omega)).trans rfl) ((hf_14 10 (by omega) (by omega) (by omega)).trans rfl)), rfl, z9⟩, hg9, ⟨_, _, _, hO_11⟩, (hRd.keep (fun k r0 r1 => ((hf_14 k (by omega) (by omega) (by omega)).trans rfl))), ⟨_, _, _, _, _, (hM.keep (fun k r0 r1 => ((hf_14 k (by omega) (by omega) (by omega)).trans rfl)))⟩, (hH.keep (fun k r0 => ((hf_14 k (by omega) (by omega) (by omega)).trans rfl))), (hX.keep ((hf_14 36 (by omega) (by omega) (by omega)).trans rfl) ((hf_14 37 (by omega) (by omega) (by omega)).trans rfl)), (hB.keep ((hf_14 38 (by omega) (by omega) (by omega)).trans rfl) ((hf_14 39 (by omega) (by omega) (by omega)).trans rfl) ((hf_14 40 (by omega) (by omega) (by omega)).trans rfl))⟩, (fun k n0 => ((hf_14 k (by omega) (by omega) (by omega)).trans rfl))⟩
    · refine A_bipush (q := 31) X dX8_nameAt_29 (by decide) rfl ?_
      have e9 : fName p (T1.1, x, hs, T7.1, T9.1, o, sd) = (-9, (T1.1, x, hs, T7.1, T9.1, o, sd)) := by unfold fName; dsimp only; rw [if_pos (by omega)]; unfold nmZ; repeat (first | rw [if_pos (by omega)] | rw [if_neg (by omega)])
      exact A_ireturn X dX8_nameAt_31 ⟨by rw [e9], by rw [e9]; exact ⟨hN, h0, ⟨_, hT1, rfl, z1⟩, hgd, ⟨_, hT3⟩, ⟨_, hT5⟩, ⟨_, hT7, rfl, z7⟩, hg7, ⟨_, hT9, rfl, z9⟩, hg9, ⟨_, _, _, hO11⟩, hRd, ⟨_, _, _, _, _, hM⟩, hH, hX, hB⟩, (fun k n0 => rfl)⟩
  · refine A_iconst (q := 12) X dX8_nameAt_11 rfl ?_
    have e9 : fName p (T1.1, x, hs, T7.1, T9.1, o, sd) = (-1, (T1.1, x, hs, T7.1, T9.1, o, sd)) := by unfold fName; dsimp only; rw [if_neg (by omega)]
    exact A_ireturn X dX8_nameAt_12 ⟨by rw [e9], by rw [e9]; exact ⟨hN, h0, ⟨_, hT1, rfl, z1⟩, hgd, ⟨_, hT3⟩, ⟨_, hT5⟩, ⟨_, hT7, rfl, z7⟩, hg7, ⟨_, hT9, rfl, z9⟩, hg9, ⟨_, _, _, hO11⟩, hRd, ⟨_, _, _, _, _, hM⟩, hH, hX, hB⟩, (fun k n0 => rfl)⟩
set_option maxRecDepth 100000 in
set_option maxHeartbeats 4000000 in
theorem c_X8_redexCount {l : Launch} {G : Gm} {c : HP} {tm x : List Int} {hs : List (List Int)} {s0 s1 : List Int} {o : List (Int × Int)} {sd : Int64} (hG : injG G)  (hW : WX G c (tm, x, hs, s0, s1, o, sd)) : AMet l G yX8_redexCount cX8_redexCount 1 ((some .int)) (rmR 3 64) [.ref (G.1 0)] c (Qi (fun v c' => v = zI (fRedex (tm, x, hs, s0, s1, o, sd)).1 ∧ WX G c' (fRedex (tm, x, hs, s0, s1, o, sd)).2 ∧ (∀ k, 55 ≤ k → c' k = c k))) := by
  refine AMet.of (vl := [some (.ref (G.1 0))]) (by decide) hG (Nat.le_of_ble_eq_true rfl) rfl ?_
  intro K X
  have X : Fx l G K cX8_redexCount 1 RX8 ((some .int)) (rmR 3 64) := X
  obtain ⟨hN, h0, ⟨T1, hT1, eT1, z1⟩, hgd, ⟨T3, hT3⟩, ⟨T5, hT5⟩, ⟨T7, hT7, eT7, z7⟩, hg7, ⟨T9, hT9, eT9, z9⟩, hg9, ⟨n11, E11, D11, hO11⟩, hRd, ⟨P0, Q0, X0, ap0, pk0, hM⟩, hH, hX, hB⟩ := hW
  dsimp only at h0 eT1 hgd eT7 hg7 eT9 hg9 hH hX hB
  subst eT1 eT7 eT9
  obtain ⟨p33, h33⟩ := hH.cell
  have hl1 := hT1.len
  have hl7 := hT7.len
  have hl9 := hT9.len
  have hxl := hX.2.1
  refine A_aload_n (q := 1) X dX8_redexCount_0 rfl rfl ?_
  refine A_getf (q := 4) X fX8_10 dX8_redexCount_1 (by omega) h0 rfl rfl ?_
  refine A_S1i (q := 7) X (c_X5_countRedexes hG hT1 hgd) mX5_countRedexes kX8_114 dX8_redexCount_4 (by decide) (Nat.le_of_ble_eq_true rfl) rfl (fun vq_3 cq_2 hq_1 => ?_)
  obtain ⟨rfl, hq_1⟩ := hq_1
  obtain rfl := hq_1.symm
  have e9 : fRedex (T1.1, x, hs, T7.1, T9.1, o, sd) = (((cntP (rx T1.1) T1.1.length : Nat) : Int), (T1.1, x, hs, T7.1, T9.1, o, sd)) := by rfl
  exact A_ireturn X dX8_redexCount_7 ⟨by rw [e9], by rw [e9]; exact ⟨hN, h0, ⟨_, hT1, rfl, z1⟩, hgd, ⟨_, hT3⟩, ⟨_, hT5⟩, ⟨_, hT7, rfl, z7⟩, hg7, ⟨_, hT9, rfl, z9⟩, hg9, ⟨_, _, _, hO11⟩, hRd, ⟨_, _, _, _, _, hM⟩, hH, hX, hB⟩, (fun k n0 => rfl)⟩
set_option maxRecDepth 100000 in
set_option maxHeartbeats 4000000 in
theorem c_X8_chosenRedex {l : Launch} {G : Gm} {c : HP} {tm x : List Int} {hs : List (List Int)} {s0 s1 : List Int} {o : List (Int × Int)} {sd : Int64} {s : Int} (hG : injG G) (hsr : rg s) (hW : WX G c (tm, x, hs, s0, s1, o, sd)) : AMet l G yX8_chosenRedex cX8_chosenRedex 2 ((some .int)) (rmR 4 86) [.ref (G.1 0), .int (zI s)] c (Qi (fun v c' => v = zI (fChosen s (tm, x, hs, s0, s1, o, sd)).1 ∧ WX G c' (fChosen s (tm, x, hs, s0, s1, o, sd)).2 ∧ (∀ k, 55 ≤ k → c' k = c k))) := by
  refine AMet.of (vl := [some (.ref (G.1 0)), some (.int (zI s))]) (by decide) hG (Nat.le_of_ble_eq_true rfl) rfl ?_
  intro K X
  have X : Fx l G K cX8_chosenRedex 2 RX8 ((some .int)) (rmR 4 86) := X
  obtain ⟨hN, h0, ⟨T1, hT1, eT1, z1⟩, hgd, ⟨T3, hT3⟩, ⟨T5, hT5⟩, ⟨T7, hT7, eT7, z7⟩, hg7, ⟨T9, hT9, eT9, z9⟩, hg9, ⟨n11, E11, D11, hO11⟩, hRd, ⟨P0, Q0, X0, ap0, pk0, hM⟩, hH, hX, hB⟩ := hW
  dsimp only at h0 eT1 hgd eT7 hg7 eT9 hg9 hH hX hB
  subst eT1 eT7 eT9
  obtain ⟨p33, h33⟩ := hH.cell
  have hl1 := hT1.len
  have hl7 := hT7.len
  have hl9 := hT9.len
  have hxl := hX.2.1
  refine A_iload_n (q := 1) X dX8_chosenRedex_0 rfl rfl ?_
  refine A_S1i (q := 4) X (c_X8_isStrategy hG (by omega)) mX8_isStrategy kX8_118 dX8_chosenRedex_1 (by decide) (Nat.le_of_ble_eq_true rfl) rfl (fun vq_3 cq_2 hq_1 => ?_)
  obtain ⟨rfl, hq_1⟩ := hq_1
  obtain rfl := hq_1.symm
  refine A_beq (q := 7) (t := 18) X dX8_chosenRedex_4 rfl rfl (fun hb4 => ?_) (fun hb4 => ?_)
  · refine A_bipush (q := 20) X dX8_chosenRedex_18 (by decide) rfl ?_
    have e9 : fChosen s (T1.1, x, hs, T7.1, T9.1, o, sd) = (-2, (T1.1, x, hs, T7.1, T9.1, o, sd)) := by unfold fChosen; dsimp only; rw [if_neg (by omega)]
    exact A_ireturn X dX8_chosenRedex_20 ⟨by rw [e9], by rw [e9]; exact ⟨hN, h0, ⟨_, hT1, rfl, z1⟩, hgd, ⟨_, hT3⟩, ⟨_, hT5⟩, ⟨_, hT7, rfl, z7⟩, hg7, ⟨_, hT9, rfl, z9⟩, hg9, ⟨_, _, _, hO11⟩, hRd, ⟨_, _, _, _, _, hM⟩, hH, hX, hB⟩, (fun k n0 => rfl)⟩
  · refine A_aload_n (q := 8) X dX8_chosenRedex_7 rfl rfl ?_
    refine A_getf (q := 11) X fX8_10 dX8_chosenRedex_8 (by omega) h0 rfl rfl ?_
    refine A_iload_n (q := 12) X dX8_chosenRedex_11 rfl rfl ?_
    refine A_S2i (q := 15) X (c_X5_choose hG hT1 hgd (by omega)) mX5_choose kX8_121 dX8_chosenRedex_12 (by decide) (Nat.le_of_ble_eq_true rfl) rfl (fun vq_6 cq_5 hq_4 => ?_)
    obtain ⟨rfl, hq_4⟩ := hq_4
    obtain rfl := hq_4.symm
    refine A_goto (q := 20) X dX8_chosenRedex_15 rfl ?_
    have e9 : fChosen s (T1.1, x, hs, T7.1, T9.1, o, sd) = (chz T1.1 s, (T1.1, x, hs, T7.1, T9.1, o, sd)) := by unfold fChosen; dsimp only; rw [if_pos (by omega)]
    exact A_ireturn X dX8_chosenRedex_20 ⟨by rw [e9], by rw [e9]; exact ⟨hN, h0, ⟨_, hT1, rfl, z1⟩, hgd, ⟨_, hT3⟩, ⟨_, hT5⟩, ⟨_, hT7, rfl, z7⟩, hg7, ⟨_, hT9, rfl, z9⟩, hg9, ⟨_, _, _, hO11⟩, hRd, ⟨_, _, _, _, _, hM⟩, hH, hX, hB⟩, (fun k n0 => rfl)⟩
set_option maxRecDepth 100000 in
set_option maxHeartbeats 4000000 in
theorem c_X8_observe {l : Launch} {G : Gm} {c : HP} {tm x : List Int} {hs : List (List Int)} {s0 s1 : List Int} {o : List (Int × Int)} {sd : Int64} {n w1 : Int} (hG : injG G) (hn : rg n) (hv : rg w1) (hW : WX G c (tm, x, hs, s0, s1, o, sd)) : AMet l G yX8_observe cX8_observe 3 ((some .int)) (rmR 2 43) [.ref (G.1 0), .int (zI n), .int (zI w1)] c (Qi (fun v c' => v = zI (fObserve n w1 (tm, x, hs, s0, s1, o, sd)).1 ∧ WX G c' (fObserve n w1 (tm, x, hs, s0, s1, o, sd)).2 ∧ (∀ k, 55 ≤ k → c' k = c k))) := by
  refine AMet.of (vl := [some (.ref (G.1 0)), some (.int (zI n)), some (.int (zI w1))]) (by decide) hG (Nat.le_of_ble_eq_true rfl) rfl ?_
  intro K X
  have X : Fx l G K cX8_observe 3 RX8 ((some .int)) (rmR 2 43) := X
  obtain ⟨hN, h0, ⟨T1, hT1, eT1, z1⟩, hgd, ⟨T3, hT3⟩, ⟨T5, hT5⟩, ⟨T7, hT7, eT7, z7⟩, hg7, ⟨T9, hT9, eT9, z9⟩, hg9, ⟨n11, E11, D11, hO11⟩, hRd, ⟨P0, Q0, X0, ap0, pk0, hM⟩, hH, hX, hB⟩ := hW
  dsimp only at h0 eT1 hgd eT7 hg7 eT9 hg9 hH hX hB
  subst eT1 eT7 eT9
  obtain ⟨p33, h33⟩ := hH.cell
  have hl1 := hT1.len
  have hl7 := hT7.len
  have hl9 := hT9.len
  have hxl := hX.2.1
  refine A_iload_n (q := 1) X dX8_observe_0 rfl rfl ?_
  refine A_if_lt (q := 4) (t := 22) X dX8_observe_1 (by omega) rfl rfl (fun hb1 => ?_) (fun hb1 => ?_)
  · refine A_bipush (q := 24) X dX8_observe_22 (by decide) rfl ?_
    have e9 : fObserve n w1 (T1.1, x, hs, T7.1, T9.1, o, sd) = (-2, (T1.1, x, hs, T7.1, T9.1, o, sd)) := by unfold fObserve; dsimp only; rw [if_neg (by omega)]
    exact A_ireturn X dX8_observe_24 ⟨by rw [e9], by rw [e9]; exact ⟨hN, h0, ⟨_, hT1, rfl, z1⟩, hgd, ⟨_, hT3⟩, ⟨_, hT5⟩, ⟨_, hT7, rfl, z7⟩, hg7, ⟨_, hT9, rfl, z9⟩, hg9, ⟨_, _, _, hO11⟩, hRd, ⟨_, _, _, _, _, hM⟩, hH, hX, hB⟩, (fun k n0 => rfl)⟩
  · refine A_iload_n (q := 5) X dX8_observe_4 rfl rfl ?_
    refine A_bipush (q := 7) X dX8_observe_5 (by decide) rfl ?_
    refine A_icmp_gt (q := 10) (t := 22) X dX8_observe_7 (by omega) (by decide) rfl rfl (fun hb7 => ?_) (fun hb7 => ?_)
    · refine A_bipush (q := 24) X dX8_observe_22 (by decide) rfl ?_
      have e9 : fObserve n w1 (T1.1, x, hs, T7.1, T9.1, o, sd) = (-2, (T1.1, x, hs, T7.1, T9.1, o, sd)) := by unfold fObserve; dsimp only; rw [if_neg (by omega)]
      exact A_ireturn X dX8_observe_24 ⟨by rw [e9], by rw [e9]; exact ⟨hN, h0, ⟨_, hT1, rfl, z1⟩, hgd, ⟨_, hT3⟩, ⟨_, hT5⟩, ⟨_, hT7, rfl, z7⟩, hg7, ⟨_, hT9, rfl, z9⟩, hg9, ⟨_, _, _, hO11⟩, hRd, ⟨_, _, _, _, _, hM⟩, hH, hX, hB⟩, (fun k n0 => rfl)⟩
    · refine A_iload_n (q := 11) X dX8_observe_10 rfl rfl ?_
      refine A_iconst (q := 12) X dX8_observe_11 rfl ?_
      refine A_icmp_lt (q := 15) (t := 22) X dX8_observe_12 (by omega) (by decide) rfl rfl (fun hb12 => ?_) (fun hb12 => ?_)
      · refine A_bipush (q := 24) X dX8_observe_22 (by decide) rfl ?_
        have e9 : fObserve n w1 (T1.1, x, hs, T7.1, T9.1, o, sd) = (-2, (T1.1, x, hs, T7.1, T9.1, o, sd)) := by unfold fObserve; dsimp only; rw [if_neg (by omega)]
        exact A_ireturn X dX8_observe_24 ⟨by rw [e9], by rw [e9]; exact ⟨hN, h0, ⟨_, hT1, rfl, z1⟩, hgd, ⟨_, hT3⟩, ⟨_, hT5⟩, ⟨_, hT7, rfl, z7⟩, hg7, ⟨_, hT9, rfl, z9⟩, hg9, ⟨_, _, _, hO11⟩, hRd, ⟨_, _, _, _, _, hM⟩, hH, hX, hB⟩, (fun k n0 => rfl)⟩
      · refine A_iload_n (q := 16) X dX8_observe_15 rfl rfl ?_
        refine A_sipush (q := 19) X dX8_observe_16 (by decide) rfl ?_
        refine A_icmp_le (q := 22) (t := 25) X dX8_observe_19 (by omega) (by decide) rfl rfl (fun hb19 => ?_) (fun hb19 => ?_)
        · refine A_aload_n (q := 26) X dX8_observe_25 rfl rfl ?_
          refine A_getf (q := 29) X fX8_66 dX8_observe_26 (by omega) h0 rfl rfl ?_
          refine A_iload_n (q := 30) X dX8_observe_29 rfl rfl ?_
          refine A_iload_n (q := 31) X dX8_observe_30 rfl rfl ?_
          refine A_V2v (q := 34) X (c_X3_add hG hN hB (by omega) (by omega)) mX3_add kX8_205 dX8_observe_31 (by omega) hB.1 rfl (by decide) (Nat.le_of_ble_eq_true rfl) rfl (fun cq_2 hq_1 => ?_)
          obtain ⟨hB_3, hf_4⟩ := hq_1
          refine A_aload_n (q := 35) X dX8_observe_34 rfl rfl ?_
          refine A_getf (q := 38) X fX8_66 dX8_observe_35 (by omega) ((hf_4 _ (by omega)).trans h0) rfl rfl ?_
          refine A_V0i (q := 41) X (c_X3_count hG hN hB_3) mX3_count kX8_208 dX8_observe_38 (by omega) hB_3.1 rfl (by decide) (Nat.le_of_ble_eq_true rfl) rfl (fun vq_7 cq_6 hq_5 => ?_)
          obtain ⟨rfl, hq_5⟩ := hq_5
          obtain rfl := hq_5.symm
          have e9 : fObserve n w1 (T1.1, x, hs, T7.1, T9.1, o, sd) = ((((obA o (n, w1)).length : Nat) : Int), (T1.1, x, hs, T7.1, T9.1, (obA o (n, w1)), sd)) := by unfold fObserve; dsimp only; rw [if_pos (by omega)]
          exact A_ireturn X dX8_observe_41 ⟨by rw [e9], by rw [e9]; exact ⟨hN, ((hf_4 _ (by omega)).trans h0), ⟨_, (hT1.keep ((hf_4 1 (by omega)).trans rfl) ((hf_4 2 (by omega)).trans rfl)), rfl, z1⟩, hgd, ⟨_, (hT3.keep ((hf_4 3 (by omega)).trans rfl) ((hf_4 4 (by omega)).trans rfl))⟩, ⟨_, (hT5.keep ((hf_4 5 (by omega)).trans rfl) ((hf_4 6 (by omega)).trans rfl))⟩, ⟨_, (hT7.keep ((hf_4 7 (by omega)).trans rfl) ((hf_4 8 (by omega)).trans rfl)), rfl, z7⟩, hg7, ⟨_, (hT9.keep ((hf_4 9 (by omega)).trans rfl) ((hf_4 10 (by omega)).trans rfl)), rfl, z9⟩, hg9, ⟨_, _, _, (hO11.keep ((hf_4 11 (by omega)).trans rfl) ((hf_4 12 (by omega)).trans rfl) ((hf_4 13 (by omega)).trans rfl))⟩, (hRd.keep (fun k r0 r1 => ((hf_4 k (by omega)).trans rfl))), ⟨_, _, _, _, _, (hM.keep (fun k r0 r1 => ((hf_4 k (by omega)).trans rfl)))⟩, (hH.keep (fun k r0 => ((hf_4 k (by omega)).trans rfl))), (hX.keep ((hf_4 36 (by omega)).trans rfl) ((hf_4 37 (by omega)).trans rfl)), hB_3⟩, (fun k n0 => ((hf_4 k (by omega)).trans rfl))⟩
        · refine A_bipush (q := 24) X dX8_observe_22 (by decide) rfl ?_
          have e9 : fObserve n w1 (T1.1, x, hs, T7.1, T9.1, o, sd) = (-2, (T1.1, x, hs, T7.1, T9.1, o, sd)) := by unfold fObserve; dsimp only; rw [if_neg (by omega)]
          exact A_ireturn X dX8_observe_24 ⟨by rw [e9], by rw [e9]; exact ⟨hN, h0, ⟨_, hT1, rfl, z1⟩, hgd, ⟨_, hT3⟩, ⟨_, hT5⟩, ⟨_, hT7, rfl, z7⟩, hg7, ⟨_, hT9, rfl, z9⟩, hg9, ⟨_, _, _, hO11⟩, hRd, ⟨_, _, _, _, _, hM⟩, hH, hX, hB⟩, (fun k n0 => rfl)⟩
set_option maxRecDepth 100000 in
set_option maxHeartbeats 4000000 in
theorem c_X8_forgetAfter {l : Launch} {G : Gm} {c : HP} {tm x : List Int} {hs : List (List Int)} {s0 s1 : List Int} {o : List (Int × Int)} {sd : Int64} {n : Int} (hG : injG G) (hn : rg n) (hW : WX G c (tm, x, hs, s0, s1, o, sd)) : AMet l G yX8_forgetAfter cX8_forgetAfter 2 ((some .int)) (rmR 1 23) [.ref (G.1 0), .int (zI n)] c (Qi (fun v c' => v = zI (fForget n (tm, x, hs, s0, s1, o, sd)).1 ∧ WX G c' (fForget n (tm, x, hs, s0, s1, o, sd)).2 ∧ (∀ k, 55 ≤ k → c' k = c k))) := by
  refine AMet.of (vl := [some (.ref (G.1 0)), some (.int (zI n))]) (by decide) hG (Nat.le_of_ble_eq_true rfl) rfl ?_
  intro K X
  have X : Fx l G K cX8_forgetAfter 2 RX8 ((some .int)) (rmR 1 23) := X
  obtain ⟨hN, h0, ⟨T1, hT1, eT1, z1⟩, hgd, ⟨T3, hT3⟩, ⟨T5, hT5⟩, ⟨T7, hT7, eT7, z7⟩, hg7, ⟨T9, hT9, eT9, z9⟩, hg9, ⟨n11, E11, D11, hO11⟩, hRd, ⟨P0, Q0, X0, ap0, pk0, hM⟩, hH, hX, hB⟩ := hW
  dsimp only at h0 eT1 hgd eT7 hg7 eT9 hg9 hH hX hB
  subst eT1 eT7 eT9
  obtain ⟨p33, h33⟩ := hH.cell
  have hl1 := hT1.len
  have hl7 := hT7.len
  have hl9 := hT9.len
  have hxl := hX.2.1
  refine A_iload_n (q := 1) X dX8_forgetAfter_0 rfl rfl ?_
  refine A_if_lt (q := 4) (t := 10) X dX8_forgetAfter_1 (by omega) rfl rfl (fun hb1 => ?_) (fun hb1 => ?_)
  · refine A_bipush (q := 12) X dX8_forgetAfter_10 (by decide) rfl ?_
    have e9 : fForget n (T1.1, x, hs, T7.1, T9.1, o, sd) = (-2, (T1.1, x, hs, T7.1, T9.1, o, sd)) := by unfold fForget; dsimp only; rw [if_neg (by omega)]
    exact A_ireturn X dX8_forgetAfter_12 ⟨by rw [e9], by rw [e9]; exact ⟨hN, h0, ⟨_, hT1, rfl, z1⟩, hgd, ⟨_, hT3⟩, ⟨_, hT5⟩, ⟨_, hT7, rfl, z7⟩, hg7, ⟨_, hT9, rfl, z9⟩, hg9, ⟨_, _, _, hO11⟩, hRd, ⟨_, _, _, _, _, hM⟩, hH, hX, hB⟩, (fun k n0 => rfl)⟩
  · refine A_iload_n (q := 5) X dX8_forgetAfter_4 rfl rfl ?_
    refine A_bipush (q := 7) X dX8_forgetAfter_5 (by decide) rfl ?_
    refine A_icmp_le (q := 10) (t := 13) X dX8_forgetAfter_7 (by omega) (by decide) rfl rfl (fun hb7 => ?_) (fun hb7 => ?_)
    · refine A_aload_n (q := 14) X dX8_forgetAfter_13 rfl rfl ?_
      refine A_getf (q := 17) X fX8_66 dX8_forgetAfter_14 (by omega) h0 rfl rfl ?_
      refine A_iload_n (q := 18) X dX8_forgetAfter_17 rfl rfl ?_
      refine A_V1v (q := 21) X (c_X3_keepUpTo hG hN hB (by omega)) mX3_keepUpTo kX8_209 dX8_forgetAfter_18 (by omega) hB.1 rfl (by decide) (Nat.le_of_ble_eq_true rfl) rfl (fun cq_2 hq_1 => ?_)
      obtain ⟨hB_3, hf_4⟩ := hq_1
      refine A_aload_n (q := 22) X dX8_forgetAfter_21 rfl rfl ?_
      refine A_getf (q := 25) X fX8_66 dX8_forgetAfter_22 (by omega) ((hf_4 _ (by omega)).trans h0) rfl rfl ?_
      refine A_V0i (q := 28) X (c_X3_count hG hN hB_3) mX3_count kX8_208 dX8_forgetAfter_25 (by omega) hB_3.1 rfl (by decide) (Nat.le_of_ble_eq_true rfl) rfl (fun vq_7 cq_6 hq_5 => ?_)
      obtain ⟨rfl, hq_5⟩ := hq_5
      obtain rfl := hq_5.symm
      have e9 : fForget n (T1.1, x, hs, T7.1, T9.1, o, sd) = ((((obF o n).length : Nat) : Int), (T1.1, x, hs, T7.1, T9.1, (obF o n), sd)) := by unfold fForget; dsimp only; rw [if_pos (by omega)]
      exact A_ireturn X dX8_forgetAfter_28 ⟨by rw [e9], by rw [e9]; exact ⟨hN, ((hf_4 _ (by omega)).trans h0), ⟨_, (hT1.keep ((hf_4 1 (by omega)).trans rfl) ((hf_4 2 (by omega)).trans rfl)), rfl, z1⟩, hgd, ⟨_, (hT3.keep ((hf_4 3 (by omega)).trans rfl) ((hf_4 4 (by omega)).trans rfl))⟩, ⟨_, (hT5.keep ((hf_4 5 (by omega)).trans rfl) ((hf_4 6 (by omega)).trans rfl))⟩, ⟨_, (hT7.keep ((hf_4 7 (by omega)).trans rfl) ((hf_4 8 (by omega)).trans rfl)), rfl, z7⟩, hg7, ⟨_, (hT9.keep ((hf_4 9 (by omega)).trans rfl) ((hf_4 10 (by omega)).trans rfl)), rfl, z9⟩, hg9, ⟨_, _, _, (hO11.keep ((hf_4 11 (by omega)).trans rfl) ((hf_4 12 (by omega)).trans rfl) ((hf_4 13 (by omega)).trans rfl))⟩, (hRd.keep (fun k r0 r1 => ((hf_4 k (by omega)).trans rfl))), ⟨_, _, _, _, _, (hM.keep (fun k r0 r1 => ((hf_4 k (by omega)).trans rfl)))⟩, (hH.keep (fun k r0 => ((hf_4 k (by omega)).trans rfl))), (hX.keep ((hf_4 36 (by omega)).trans rfl) ((hf_4 37 (by omega)).trans rfl)), hB_3⟩, (fun k n0 => ((hf_4 k (by omega)).trans rfl))⟩
    · refine A_bipush (q := 12) X dX8_forgetAfter_10 (by decide) rfl ?_
      have e9 : fForget n (T1.1, x, hs, T7.1, T9.1, o, sd) = (-2, (T1.1, x, hs, T7.1, T9.1, o, sd)) := by unfold fForget; dsimp only; rw [if_neg (by omega)]
      exact A_ireturn X dX8_forgetAfter_12 ⟨by rw [e9], by rw [e9]; exact ⟨hN, h0, ⟨_, hT1, rfl, z1⟩, hgd, ⟨_, hT3⟩, ⟨_, hT5⟩, ⟨_, hT7, rfl, z7⟩, hg7, ⟨_, hT9, rfl, z9⟩, hg9, ⟨_, _, _, hO11⟩, hRd, ⟨_, _, _, _, _, hM⟩, hH, hX, hB⟩, (fun k n0 => rfl)⟩
