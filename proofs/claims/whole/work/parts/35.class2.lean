/-! THE CLASS: actions, predictions, slots -/
set_option maxRecDepth 100000 in
set_option maxHeartbeats 4000000 in
theorem c_X8_slotTerm {l : Launch} {G : Gm} {c : HP} {tm x : List Int} {hs : List (List Int)} {s0 s1 : List Int} {o : List (Int × Int)} {sd : Int64} {k : Int} (hG : injG G) (hk : rg k) (hW : WX G c (tm, x, hs, s0, s1, o, sd)) : AMet l G yX8_slotTerm cX8_slotTerm 2 ((some (.object "SubstitutionMachine$Term"))) (rmR 0 0) [.ref (G.1 0), .int (zI k)] c (Qr G (fun q c' => q = (if k = 0 then 7 else 9) ∧ c' = c)) := by
  refine AMet.of (vl := [some (.ref (G.1 0)), some (.int (zI k))]) (by decide) hG (Nat.le_of_ble_eq_true rfl) rfl ?_
  intro K X
  have X : Fx l G K cX8_slotTerm 2 RX8 ((some (.object "SubstitutionMachine$Term"))) (rmR 0 0) := X
  have hW0 := hW
  obtain ⟨hN, h0, ⟨T1, hT1, eT1, z1⟩, hgd, ⟨T3, hT3⟩, ⟨T5, hT5⟩, ⟨T7, hT7, eT7, z7⟩, hg7, ⟨T9, hT9, eT9, z9⟩, hg9, ⟨n11, E11, D11, hO11⟩, hRd, ⟨P0, Q0, X0, ap0, pk0, hM⟩, hH, hX, hB⟩ := hW
  dsimp only at h0 eT1 hgd eT7 hg7 eT9 hg9 hH hX hB
  subst eT1 eT7 eT9
  obtain ⟨p33, h33⟩ := hH.cell
  have hl1 := hT1.len
  have hl7 := hT7.len
  have hl9 := hT9.len
  have hxl := hX.2.1
  refine A_iload_n (q := 1) X dX8_slotTerm_0 rfl rfl ?_
  refine A_if_ne (q := 4) (t := 11) X dX8_slotTerm_1 (by omega) rfl rfl (fun hb1 => ?_) (fun hb1 => ?_)
  · refine A_aload_n (q := 12) X dX8_slotTerm_11 rfl rfl ?_
    refine A_getf (q := 15) X fX8_25 dX8_slotTerm_12 (by omega) h0 rfl rfl ?_
    exact A_areturn (k := 9) X dX8_slotTerm_15 ⟨by first | rw [if_pos (by omega)] | rw [if_neg (by omega)], rfl⟩
  · refine A_aload_n (q := 5) X dX8_slotTerm_4 rfl rfl ?_
    refine A_getf (q := 8) X fX8_22 dX8_slotTerm_5 (by omega) h0 rfl rfl ?_
    refine A_goto (q := 15) X dX8_slotTerm_8 rfl ?_
    exact A_areturn (k := 7) X dX8_slotTerm_15 ⟨by first | rw [if_pos (by omega)] | rw [if_neg (by omega)], rfl⟩
set_option maxRecDepth 100000 in
set_option maxHeartbeats 4000000 in
theorem c_X8_actWithCopy {l : Launch} {G : Gm} {c : HP} {T1 T3 : List Int × Int} {hs : List (List Int)} {sd : Int64} (hG : injG G) (hN : G.2.1 = 72) (h0 : c 0 = .inr (8, [.ref (G.1 1), .ref (G.1 3), .ref (G.1 5), .ref (G.1 7), .ref (G.1 9), .ref (G.1 11), .ref (G.1 14), .ref (G.1 23), .ref (G.1 33), .ref (G.1 36), .ref (G.1 38), .long sd])) (hT1 : Tm G c 1 2 T1) (hgd : Gd T1.1) (hT3 : Tm G c 3 4 T3) (hH : Hs G c hs) : AMet l G yX8_actWithCopy cX8_actWithCopy 1 ((some .int)) (rmR 2 61) [.ref (G.1 0)] c (Qi (fun v c' => v = zI (T3.1.length : Nat) ∧ Tm G c' 1 2 T3 ∧ Hs G c' (psh hs T1.1) ∧ (∀ k, k ≠ 1 → k ≠ 2 → k < 33 ∨ (35 < k ∧ k < 41) ∨ 54 < k → c' k = c k))) := by
  refine AMet.of (vl := [some (.ref (G.1 0))]) (by decide) hG (Nat.le_of_ble_eq_true rfl) rfl ?_
  intro K X
  have X : Fx l G K cX8_actWithCopy 1 RX8 ((some .int)) (rmR 2 61) := X
  refine A_aload_n (q := 1) X dX8_actWithCopy_0 rfl rfl ?_
  refine A_getf (q := 4) X fX8_52 dX8_actWithCopy_1 (by omega) h0 rfl rfl ?_
  refine A_aload_n (q := 5) X dX8_actWithCopy_4 rfl rfl ?_
  refine A_getf (q := 8) X fX8_10 dX8_actWithCopy_5 (by omega) h0 rfl rfl ?_
  obtain ⟨p_1, h33x_2⟩ := hH.cell
  refine A_V1v (q := 11) X (c_X1_remember hG hN hH hT1 hgd (by omega) (by omega)) mX1_remember kX8_218 dX8_actWithCopy_8 (by omega) h33x_2 rfl (by decide) (Nat.le_of_ble_eq_true rfl) rfl (fun cq_4 hq_3 => ?_)
  obtain ⟨hH_5, hf_6⟩ := hq_3
  refine A_aload_n (q := 12) X dX8_actWithCopy_11 rfl rfl ?_
  refine A_getf (q := 15) X fX8_10 dX8_actWithCopy_12 (by omega) ((hf_6 _ (by omega)).trans h0) rfl rfl ?_
  refine A_aload_n (q := 16) X dX8_actWithCopy_15 rfl rfl ?_
  refine A_getf (q := 19) X fX8_16 dX8_actWithCopy_16 (by omega) ((hf_6 _ (by omega)).trans h0) rfl rfl ?_
  refine A_V1v (q := 22) X (c_X6_copyFrom hG (hT1.keep ((hf_6 1 (by omega)).trans rfl) ((hf_6 2 (by omega)).trans rfl)) (hT3.keep ((hf_6 3 (by omega)).trans rfl) ((hf_6 4 (by omega)).trans rfl)) (by omega) (by omega) (by omega) (by omega)) mX6_copyFrom kX8_128 dX8_actWithCopy_19 (by omega) (hT1.keep ((hf_6 1 (by omega)).trans rfl) ((hf_6 2 (by omega)).trans rfl)).cell rfl (by decide) (Nat.le_of_ble_eq_true rfl) rfl (fun cq_8 hq_7 => ?_)
  obtain ⟨hT_9, hf_10⟩ := hq_7
  refine A_aload_n (q := 23) X dX8_actWithCopy_22 rfl rfl ?_
  refine A_getf (q := 26) X fX8_10 dX8_actWithCopy_23 (by omega) ((hf_10 _ (by omega) (by omega)).trans ((hf_6 _ (by omega)).trans h0)) rfl rfl ?_
  refine A_V0i (q := 29) X (c_X6_length hG hT_9) mX6_length kX8_100 dX8_actWithCopy_26 (by omega) hT_9.cell rfl (by decide) (Nat.le_of_ble_eq_true rfl) rfl (fun vq_13 cq_12 hq_11 => ?_)
  obtain ⟨rfl, hq_11⟩ := hq_11
  obtain rfl := hq_11.symm
  exact A_ireturn X dX8_actWithCopy_29 ⟨rfl, hT_9, (hH_5.keep (fun k r0 => ((hf_10 k (by omega) (by omega)).trans rfl))), (fun k n0 n1 n2 => ((hf_10 k (by omega) (by omega)).trans ((hf_6 k (by omega)).trans rfl)))⟩
set_option maxRecDepth 100000 in
set_option maxHeartbeats 4000000 in
theorem c_X8_step {l : Launch} {G : Gm} {c : HP} {tm x : List Int} {hs : List (List Int)} {s0 s1 : List Int} {o : List (Int × Int)} {sd : Int64} {s : Int} (hG : injG G) (hsr : rg s) (hW : WX G c (tm, x, hs, s0, s1, o, sd)) : AMet l G yX8_step cX8_step 3 ((some .int)) (rmR 4 106) [.ref (G.1 0), .int (zI s)] c (Qi (fun v c' => v = zI (fStep s (tm, x, hs, s0, s1, o, sd)).1 ∧ WX G c' (fStep s (tm, x, hs, s0, s1, o, sd)).2 ∧ (∀ k, 55 ≤ k → c' k = c k))) := by
  refine AMet.of (vl := [some (.ref (G.1 0)), some (.int (zI s))]) (by decide) hG (Nat.le_of_ble_eq_true rfl) rfl ?_
  intro K X
  have X : Fx l G K cX8_step 3 RX8 ((some .int)) (rmR 4 106) := X
  have hW0 := hW
  obtain ⟨hN, h0, ⟨T1, hT1, eT1, z1⟩, hgd, ⟨T3, hT3⟩, ⟨T5, hT5⟩, ⟨T7, hT7, eT7, z7⟩, hg7, ⟨T9, hT9, eT9, z9⟩, hg9, ⟨n11, E11, D11, hO11⟩, hRd, ⟨P0, Q0, X0, ap0, pk0, hM⟩, hH, hX, hB⟩ := hW
  dsimp only at h0 eT1 hgd eT7 hg7 eT9 hg9 hH hX hB
  subst eT1 eT7 eT9
  obtain ⟨p33, h33⟩ := hH.cell
  have hl1 := hT1.len
  have hl7 := hT7.len
  have hl9 := hT9.len
  have hxl := hX.2.1
  refine A_iload_n (q := 1) X dX8_step_0 rfl rfl ?_
  refine A_S1i (q := 4) X (c_X8_isStrategy hG (by omega)) mX8_isStrategy kX8_118 dX8_step_1 (by decide) (Nat.le_of_ble_eq_true rfl) rfl (fun vq_3 cq_2 hq_1 => ?_)
  obtain ⟨rfl, hq_1⟩ := hq_1
  obtain rfl := hq_1.symm
  refine A_bne (q := 7) (t := 10) X dX8_step_4 rfl rfl (fun hb4 => ?_) (fun hb4 => ?_)
  · refine A_aload_n (q := 11) X dX8_step_10 rfl rfl ?_
    refine A_getf (q := 14) X fX8_10 dX8_step_11 (by omega) h0 rfl rfl ?_
    refine A_iload_n (q := 15) X dX8_step_14 rfl rfl ?_
    refine A_S2i (q := 18) X (c_X5_choose hG hT1 hgd (by omega)) mX5_choose kX8_121 dX8_step_15 (by decide) (Nat.le_of_ble_eq_true rfl) rfl (fun vq_6 cq_5 hq_4 => ?_)
    obtain ⟨rfl, hq_4⟩ := hq_4
    obtain rfl := hq_4.symm
    refine A_istore_n (q := 19) X dX8_step_18 (by decide) (okP_s rfl rfl) rfl ?_
    have hch : -9 ≤ chz T1.1 s ∧ chz T1.1 s ≤ 1000 := by rcases chz_cases T1.1 s with h | ⟨k, h1, h2, -⟩ <;> omega
    refine A_iload_n (q := 20) X dX8_step_19 rfl rfl ?_
    refine A_bipush (q := 22) X dX8_step_20 (by decide) rfl ?_
    refine A_icmp_ne (q := 25) (t := 28) X dX8_step_22 (by omega) (by decide) rfl rfl (fun hb22 => ?_) (fun hb22 => ?_)
    · refine A_aload_n (q := 29) X dX8_step_28 rfl rfl ?_
      refine A_getf (q := 32) X fX8_16 dX8_step_29 (by omega) h0 rfl rfl ?_
      refine A_aload_n (q := 33) X dX8_step_32 rfl rfl ?_
      refine A_getf (q := 36) X fX8_10 dX8_step_33 (by omega) h0 rfl rfl ?_
      refine A_V1v (q := 39) X (c_X6_copyFrom hG hT3 hT1 (by omega) (by omega) (by omega) (by omega)) mX6_copyFrom kX8_128 dX8_step_36 (by omega) hT3.cell rfl (by decide) (Nat.le_of_ble_eq_true rfl) rfl (fun cq_8 hq_7 => ?_)
      obtain ⟨hT_9, hf_10⟩ := hq_7
      refine A_aload_n (q := 40) X dX8_step_39 rfl rfl ?_
      refine A_getf (q := 43) X fX8_38 dX8_step_40 (by omega) ((hf_10 _ (by omega) (by omega)).trans h0) rfl rfl ?_
      refine A_aload_n (q := 44) X dX8_step_43 rfl rfl ?_
      refine A_getf (q := 47) X fX8_16 dX8_step_44 (by omega) ((hf_10 _ (by omega) (by omega)).trans h0) rfl rfl ?_
      refine A_iload_n (q := 48) X dX8_step_47 rfl rfl ?_
      refine A_V2i (q := 51) X (c_X5_contract hG hN (hRd.keep (fun k r0 r1 => ((hf_10 k (by omega) (by omega)).trans rfl))) hT_9 z1 hgd (by omega) (by omega) (by omega)) mX5_contract kX8_131 dX8_step_48 (by omega) (hRd.keep (fun k r0 r1 => ((hf_10 k (by omega) (by omega)).trans rfl))).1 rfl (by decide) (Nat.le_of_ble_eq_true rfl) rfl (fun vq_13 cq_12 hq_11 => ?_)
      obtain ⟨rfl, hT_14, hRd_15, hf_16⟩ := hq_11
      refine A_beq (q := 54) (t := 61) X dX8_step_51 rfl rfl (fun hb51 => ?_) (fun hb51 => ?_)
      · refine A_bipush (q := 63) X dX8_step_61 (by decide) rfl ?_
        have hno : stepT s T1.1 = none := by unfold stepT; cases h : ctO T1.1 (chz T1.1 s) with | none => rfl | some v => rw [h] at hb51; exact absurd rfl hb51
        have e9 : fStep s (T1.1, x, hs, T7.1, T9.1, o, sd) = (-4, (T1.1, x, hs, T7.1, T9.1, o, sd)) := by unfold fStep; dsimp only; rw [if_pos (by omega), if_neg (by omega), hno]
        exact A_ireturn X dX8_step_63 ⟨by rw [e9], by rw [e9]; exact ⟨hN, ((hf_16 _ (by omega) (by omega) (by omega)).trans ((hf_10 _ (by omega) (by omega)).trans h0)), ⟨_, (hT1.keep ((hf_16 1 (by omega) (by omega) (by omega)).trans ((hf_10 1 (by omega) (by omega)).trans rfl)) ((hf_16 2 (by omega) (by omega) (by omega)).trans ((hf_10 2 (by omega) (by omega)).trans rfl))), rfl, z1⟩, hgd, ⟨_, hT_14⟩, ⟨_, (hT5.keep ((hf_16 5 (by omega) (by omega) (by omega)).trans ((hf_10 5 (by omega) (by omega)).trans rfl)) ((hf_16 6 (by omega) (by omega) (by omega)).trans ((hf_10 6 (by omega) (by omega)).trans rfl)))⟩, ⟨_, (hT7.keep ((hf_16 7 (by omega) (by omega) (by omega)).trans ((hf_10 7 (by omega) (by omega)).trans rfl)) ((hf_16 8 (by omega) (by omega) (by omega)).trans ((hf_10 8 (by omega) (by omega)).trans rfl))), rfl, z7⟩, hg7, ⟨_, (hT9.keep ((hf_16 9 (by omega) (by omega) (by omega)).trans ((hf_10 9 (by omega) (by omega)).trans rfl)) ((hf_16 10 (by omega) (by omega) (by omega)).trans ((hf_10 10 (by omega) (by omega)).trans rfl))), rfl, z9⟩, hg9, ⟨_, _, _, (hO11.keep ((hf_16 11 (by omega) (by omega) (by omega)).trans ((hf_10 11 (by omega) (by omega)).trans rfl)) ((hf_16 12 (by omega) (by omega) (by omega)).trans ((hf_10 12 (by omega) (by omega)).trans rfl)) ((hf_16 13 (by omega) (by omega) (by omega)).trans ((hf_10 13 (by omega) (by omega)).trans rfl)))⟩, hRd_15, ⟨_, _, _, _, _, (hM.keep (fun k r0 r1 => ((hf_16 k (by omega) (by omega) (by omega)).trans ((hf_10 k (by omega) (by omega)).trans rfl))))⟩, (hH.keep (fun k r0 => ((hf_16 k (by omega) (by omega) (by omega)).trans ((hf_10 k (by omega) (by omega)).trans rfl)))), (hX.keep ((hf_16 36 (by omega) (by omega) (by omega)).trans ((hf_10 36 (by omega) (by omega)).trans rfl)) ((hf_16 37 (by omega) (by omega) (by omega)).trans ((hf_10 37 (by omega) (by omega)).trans rfl))), (hB.keep ((hf_16 38 (by omega) (by omega) (by omega)).trans ((hf_10 38 (by omega) (by omega)).trans rfl)) ((hf_16 39 (by omega) (by omega) (by omega)).trans ((hf_10 39 (by omega) (by omega)).trans rfl)) ((hf_16 40 (by omega) (by omega) (by omega)).trans ((hf_10 40 (by omega) (by omega)).trans rfl)))⟩, (fun k n0 => ((hf_16 k (by omega) (by omega) (by omega)).trans ((hf_10 k (by omega) (by omega)).trans rfl)))⟩
      · obtain ⟨l1, hl1x⟩ : ∃ l1, ctO T1.1 (chz T1.1 s) = some l1 := Option.isSome_iff_exists.mp hb51
        have hT3y := hT_14
        rw [hl1x] at hT3y
        have hT3y : Tm G _ 3 4 (l1, 0) := hT3y
        refine A_aload_n (q := 55) X dX8_step_54 rfl rfl ?_
        refine A_V0i (q := 58) X (c_X8_actWithCopy hG hN ((hf_16 _ (by omega) (by omega) (by omega)).trans ((hf_10 _ (by omega) (by omega)).trans h0)) (hT1.keep ((hf_16 1 (by omega) (by omega) (by omega)).trans ((hf_10 1 (by omega) (by omega)).trans rfl)) ((hf_16 2 (by omega) (by omega) (by omega)).trans ((hf_10 2 (by omega) (by omega)).trans rfl))) hgd hT3y (hH.keep (fun k r0 => ((hf_16 k (by omega) (by omega) (by omega)).trans ((hf_10 k (by omega) (by omega)).trans rfl))))) mX8_actWithCopy kX8_135 dX8_step_55 (by omega) ((hf_16 _ (by omega) (by omega) (by omega)).trans ((hf_10 _ (by omega) (by omega)).trans h0)) rfl (by decide) (Nat.le_of_ble_eq_true rfl) rfl (fun vq_19 cq_18 hq_17 => ?_)
        obtain ⟨rfl, hT_20, hH_21, hf_22⟩ := hq_17
        refine A_goto (q := 63) X dX8_step_58 rfl ?_
        have e9 : fStep s (T1.1, x, hs, T7.1, T9.1, o, sd) = (((l1.length : Nat) : Int), (((l1, 0) : List Int × Int).1, x, (psh hs T1.1), T7.1, T9.1, o, sd)) := by unfold fStep; dsimp only; rw [if_pos (by omega), if_neg (by omega), show stepT s T1.1 = some l1 from hl1x]; unfold actS; rfl
        exact A_ireturn X dX8_step_63 ⟨by rw [e9], by rw [e9]; exact ⟨hN, ((hf_22 _ (by omega) (by omega) (by omega)).trans ((hf_16 _ (by omega) (by omega) (by omega)).trans ((hf_10 _ (by omega) (by omega)).trans h0))), ⟨_, hT_20, rfl, rfl⟩, (Gd_ctO hgd hl1x), ⟨_, (hT3y.keep ((hf_22 3 (by omega) (by omega) (by omega)).trans rfl) ((hf_22 4 (by omega) (by omega) (by omega)).trans rfl))⟩, ⟨_, (hT5.keep ((hf_22 5 (by omega) (by omega) (by omega)).trans ((hf_16 5 (by omega) (by omega) (by omega)).trans ((hf_10 5 (by omega) (by omega)).trans rfl))) ((hf_22 6 (by omega) (by omega) (by omega)).trans ((hf_16 6 (by omega) (by omega) (by omega)).trans ((hf_10 6 (by omega) (by omega)).trans rfl))))⟩, ⟨_, (hT7.keep ((hf_22 7 (by omega) (by omega) (by omega)).trans ((hf_16 7 (by omega) (by omega) (by omega)).trans ((hf_10 7 (by omega) (by omega)).trans rfl))) ((hf_22 8 (by omega) (by omega) (by omega)).trans ((hf_16 8 (by omega) (by omega) (by omega)).trans ((hf_10 8 (by omega) (by omega)).trans rfl)))), rfl, z7⟩, hg7, ⟨_, (hT9.keep ((hf_22 9 (by omega) (by omega) (by omega)).trans ((hf_16 9 (by omega) (by omega) (by omega)).trans ((hf_10 9 (by omega) (by omega)).trans rfl))) ((hf_22 10 (by omega) (by omega) (by omega)).trans ((hf_16 10 (by omega) (by omega) (by omega)).trans ((hf_10 10 (by omega) (by omega)).trans rfl)))), rfl, z9⟩, hg9, ⟨_, _, _, (hO11.keep ((hf_22 11 (by omega) (by omega) (by omega)).trans ((hf_16 11 (by omega) (by omega) (by omega)).trans ((hf_10 11 (by omega) (by omega)).trans rfl))) ((hf_22 12 (by omega) (by omega) (by omega)).trans ((hf_16 12 (by omega) (by omega) (by omega)).trans ((hf_10 12 (by omega) (by omega)).trans rfl))) ((hf_22 13 (by omega) (by omega) (by omega)).trans ((hf_16 13 (by omega) (by omega) (by omega)).trans ((hf_10 13 (by omega) (by omega)).trans rfl))))⟩, (hRd_15.keep (fun k r0 r1 => ((hf_22 k (by omega) (by omega) (by omega)).trans rfl))), ⟨_, _, _, _, _, (hM.keep (fun k r0 r1 => ((hf_22 k (by omega) (by omega) (by omega)).trans ((hf_16 k (by omega) (by omega) (by omega)).trans ((hf_10 k (by omega) (by omega)).trans rfl)))))⟩, hH_21, (hX.keep ((hf_22 36 (by omega) (by omega) (by omega)).trans ((hf_16 36 (by omega) (by omega) (by omega)).trans ((hf_10 36 (by omega) (by omega)).trans rfl))) ((hf_22 37 (by omega) (by omega) (by omega)).trans ((hf_16 37 (by omega) (by omega) (by omega)).trans ((hf_10 37 (by omega) (by omega)).trans rfl)))), (hB.keep ((hf_22 38 (by omega) (by omega) (by omega)).trans ((hf_16 38 (by omega) (by omega) (by omega)).trans ((hf_10 38 (by omega) (by omega)).trans rfl))) ((hf_22 39 (by omega) (by omega) (by omega)).trans ((hf_16 39 (by omega) (by omega) (by omega)).trans ((hf_10 39 (by omega) (by omega)).trans rfl))) ((hf_22 40 (by omega) (by omega) (by omega)).trans ((hf_16 40 (by omega) (by omega) (by omega)).trans ((hf_10 40 (by omega) (by omega)).trans rfl))))⟩, (fun k n0 => ((hf_22 k (by omega) (by omega) (by omega)).trans ((hf_16 k (by omega) (by omega) (by omega)).trans ((hf_10 k (by omega) (by omega)).trans rfl))))⟩
    · refine A_bipush (q := 27) X dX8_step_25 (by decide) rfl ?_
      have e9 : fStep s (T1.1, x, hs, T7.1, T9.1, o, sd) = (-3, (T1.1, x, hs, T7.1, T9.1, o, sd)) := by unfold fStep; dsimp only; rw [if_pos (by omega), if_pos (by omega)]
      exact A_ireturn X dX8_step_27 ⟨by rw [e9], by rw [e9]; exact ⟨hN, h0, ⟨_, hT1, rfl, z1⟩, hgd, ⟨_, hT3⟩, ⟨_, hT5⟩, ⟨_, hT7, rfl, z7⟩, hg7, ⟨_, hT9, rfl, z9⟩, hg9, ⟨_, _, _, hO11⟩, hRd, ⟨_, _, _, _, _, hM⟩, hH, hX, hB⟩, (fun k n0 => rfl)⟩
  · refine A_bipush (q := 9) X dX8_step_7 (by decide) rfl ?_
    have e9 : fStep s (T1.1, x, hs, T7.1, T9.1, o, sd) = (-2, (T1.1, x, hs, T7.1, T9.1, o, sd)) := by unfold fStep; dsimp only; rw [if_neg (by omega)]
    exact A_ireturn X dX8_step_9 ⟨by rw [e9], by rw [e9]; exact ⟨hN, h0, ⟨_, hT1, rfl, z1⟩, hgd, ⟨_, hT3⟩, ⟨_, hT5⟩, ⟨_, hT7, rfl, z7⟩, hg7, ⟨_, hT9, rfl, z9⟩, hg9, ⟨_, _, _, hO11⟩, hRd, ⟨_, _, _, _, _, hM⟩, hH, hX, hB⟩, (fun k n0 => rfl)⟩
set_option maxRecDepth 100000 in
set_option maxHeartbeats 4000000 in
theorem c_X8_run {l : Launch} {G : Gm} {c : HP} {tm x : List Int} {hs : List (List Int)} {s0 s1 : List Int} {o : List (Int × Int)} {sd : Int64} {s n : Int} (hG : injG G) (hsr : rg s) (hn : rg n) (hW : WX G c (tm, x, hs, s0, s1, o, sd)) : AMet l G yX8_run cX8_run 4 ((some .int)) (rmR 5 130) [.ref (G.1 0), .int (zI s), .int (zI n)] c (Qi (fun v c' => v = zI (fRun s n (tm, x, hs, s0, s1, o, sd)).1 ∧ WX G c' (fRun s n (tm, x, hs, s0, s1, o, sd)).2 ∧ (∀ k, 55 ≤ k → c' k = c k))) := by
  refine AMet.of (vl := [some (.ref (G.1 0)), some (.int (zI s)), some (.int (zI n))]) (by decide) hG (Nat.le_of_ble_eq_true rfl) rfl ?_
  intro K X
  have X : Fx l G K cX8_run 4 RX8 ((some .int)) (rmR 5 130) := X
  have hW0 := hW
  obtain ⟨hN, h0, ⟨T1, hT1, eT1, z1⟩, hgd, ⟨T3, hT3⟩, ⟨T5, hT5⟩, ⟨T7, hT7, eT7, z7⟩, hg7, ⟨T9, hT9, eT9, z9⟩, hg9, ⟨n11, E11, D11, hO11⟩, hRd, ⟨P0, Q0, X0, ap0, pk0, hM⟩, hH, hX, hB⟩ := hW
  dsimp only at h0 eT1 hgd eT7 hg7 eT9 hg9 hH hX hB
  subst eT1 eT7 eT9
  obtain ⟨p33, h33⟩ := hH.cell
  have hl1 := hT1.len
  have hl7 := hT7.len
  have hl9 := hT9.len
  have hxl := hX.2.1
  refine A_iload_n (q := 1) X dX8_run_0 rfl rfl ?_
  refine A_S1i (q := 4) X (c_X8_isStrategy hG (by omega)) mX8_isStrategy kX8_118 dX8_run_1 (by decide) (Nat.le_of_ble_eq_true rfl) rfl (fun vq_3 cq_2 hq_1 => ?_)
  obtain ⟨rfl, hq_1⟩ := hq_1
  obtain rfl := hq_1.symm
  refine A_beq (q := 7) (t := 18) X dX8_run_4 rfl rfl (fun hb4 => ?_) (fun hb4 => ?_)
  · refine A_bipush (q := 20) X dX8_run_18 (by decide) rfl ?_
    have e9 : fRun s n (T1.1, x, hs, T7.1, T9.1, o, sd) = (-2, (T1.1, x, hs, T7.1, T9.1, o, sd)) := by unfold fRun; dsimp only; rw [if_neg (by omega)]
    exact A_ireturn X dX8_run_20 ⟨by rw [e9], by rw [e9]; exact ⟨hN, h0, ⟨_, hT1, rfl, z1⟩, hgd, ⟨_, hT3⟩, ⟨_, hT5⟩, ⟨_, hT7, rfl, z7⟩, hg7, ⟨_, hT9, rfl, z9⟩, hg9, ⟨_, _, _, hO11⟩, hRd, ⟨_, _, _, _, _, hM⟩, hH, hX, hB⟩, (fun k n0 => rfl)⟩
  · refine A_iload_n (q := 8) X dX8_run_7 rfl rfl ?_
    refine A_iconst (q := 9) X dX8_run_8 rfl ?_
    refine A_icmp_lt (q := 12) (t := 18) X dX8_run_9 (by omega) (by decide) rfl rfl (fun hb9 => ?_) (fun hb9 => ?_)
    · refine A_bipush (q := 20) X dX8_run_18 (by decide) rfl ?_
      have e9 : fRun s n (T1.1, x, hs, T7.1, T9.1, o, sd) = (-2, (T1.1, x, hs, T7.1, T9.1, o, sd)) := by unfold fRun; dsimp only; rw [if_neg (by omega)]
      exact A_ireturn X dX8_run_20 ⟨by rw [e9], by rw [e9]; exact ⟨hN, h0, ⟨_, hT1, rfl, z1⟩, hgd, ⟨_, hT3⟩, ⟨_, hT5⟩, ⟨_, hT7, rfl, z7⟩, hg7, ⟨_, hT9, rfl, z9⟩, hg9, ⟨_, _, _, hO11⟩, hRd, ⟨_, _, _, _, _, hM⟩, hH, hX, hB⟩, (fun k n0 => rfl)⟩
    · refine A_iload_n (q := 13) X dX8_run_12 rfl rfl ?_
      refine A_bipush (q := 15) X dX8_run_13 (by decide) rfl ?_
      refine A_icmp_le (q := 18) (t := 21) X dX8_run_15 (by omega) (by decide) rfl rfl (fun hb15 => ?_) (fun hb15 => ?_)
      · refine A_aload_n (q := 22) X dX8_run_21 rfl rfl ?_
        refine A_getf (q := 25) X fX8_16 dX8_run_22 (by omega) h0 rfl rfl ?_
        refine A_aload_n (q := 26) X dX8_run_25 rfl rfl ?_
        refine A_getf (q := 29) X fX8_10 dX8_run_26 (by omega) h0 rfl rfl ?_
        refine A_V1v (q := 32) X (c_X6_copyFrom hG hT3 hT1 (by omega) (by omega) (by omega) (by omega)) mX6_copyFrom kX8_128 dX8_run_29 (by omega) hT3.cell rfl (by decide) (Nat.le_of_ble_eq_true rfl) rfl (fun cq_5 hq_4 => ?_)
        obtain ⟨hT_6, hf_7⟩ := hq_4
        refine A_aload_n (q := 33) X dX8_run_32 rfl rfl ?_
        refine A_getf (q := 36) X fX8_38 dX8_run_33 (by omega) ((hf_7 _ (by omega) (by omega)).trans h0) rfl rfl ?_
        refine A_aload_n (q := 37) X dX8_run_36 rfl rfl ?_
        refine A_getf (q := 40) X fX8_16 dX8_run_37 (by omega) ((hf_7 _ (by omega) (by omega)).trans h0) rfl rfl ?_
        refine A_iload_n (q := 41) X dX8_run_40 rfl rfl ?_
        refine A_iload_n (q := 42) X dX8_run_41 rfl rfl ?_
        rw [show zI n = zI (((n).toNat : Nat) : Int) from congrArg zI (by omega)]
        refine A_V3i (q := 45) X (c_X5_perform (n0 := (n).toNat) hG hN (by omega) (by omega) (by omega) (by omega) (hRd.keep (fun k r0 r1 => ((hf_7 k (by omega) (by omega)).trans rfl))) hT_6 z1 hgd) mX5_perform kX8_138 dX8_run_42 (by omega) (hRd.keep (fun k r0 r1 => ((hf_7 k (by omega) (by omega)).trans rfl))).1 rfl (by decide) (Nat.le_of_ble_eq_true rfl) rfl (fun vq_10 cq_9 hq_8 => ?_)
        obtain ⟨rfl, hT_11, hRd_12, hf_13⟩ := hq_8
        refine A_istore_n (q := 46) X dX8_run_45 (by decide) (okP_s rfl rfl) rfl ?_
        refine A_aload_n (q := 47) X dX8_run_46 rfl rfl ?_
        refine A_V0i (q := 50) X (c_X8_actWithCopy hG hN ((hf_13 _ (by omega) (by omega) (by omega)).trans ((hf_7 _ (by omega) (by omega)).trans h0)) (hT1.keep ((hf_13 1 (by omega) (by omega) (by omega)).trans ((hf_7 1 (by omega) (by omega)).trans rfl)) ((hf_13 2 (by omega) (by omega) (by omega)).trans ((hf_7 2 (by omega) (by omega)).trans rfl))) hgd hT_11 (hH.keep (fun k r0 => ((hf_13 k (by omega) (by omega) (by omega)).trans ((hf_7 k (by omega) (by omega)).trans rfl))))) mX8_actWithCopy kX8_135 dX8_run_47 (by omega) ((hf_13 _ (by omega) (by omega) (by omega)).trans ((hf_7 _ (by omega) (by omega)).trans h0)) rfl (by decide) (Nat.le_of_ble_eq_true rfl) rfl (fun vq_16 cq_15 hq_14 => ?_)
        obtain ⟨rfl, hT_17, hH_18, hf_19⟩ := hq_14
        refine A_pop (q := 51) X dX8_run_50 rfl rfl ?_
        refine A_iload_n (q := 52) X dX8_run_51 rfl rfl ?_
        have e9 : fRun s n (T1.1, x, hs, T7.1, T9.1, o, sd) = ((((runT s n.toNat T1.1).2 : Nat) : Int), (((runT s (n).toNat T1.1).1, (0 : Int)).1, x, (psh hs T1.1), T7.1, T9.1, o, sd)) := by unfold fRun; dsimp only; rw [if_pos (by omega)]; unfold actS; rfl
        exact A_ireturn X dX8_run_52 ⟨by rw [e9], by rw [e9]; exact ⟨hN, ((hf_19 _ (by omega) (by omega) (by omega)).trans ((hf_13 _ (by omega) (by omega) (by omega)).trans ((hf_7 _ (by omega) (by omega)).trans h0))), ⟨_, hT_17, rfl, rfl⟩, (Gd_run s (n).toNat _ hgd), ⟨_, (hT_11.keep ((hf_19 3 (by omega) (by omega) (by omega)).trans rfl) ((hf_19 4 (by omega) (by omega) (by omega)).trans rfl))⟩, ⟨_, (hT5.keep ((hf_19 5 (by omega) (by omega) (by omega)).trans ((hf_13 5 (by omega) (by omega) (by omega)).trans ((hf_7 5 (by omega) (by omega)).trans rfl))) ((hf_19 6 (by omega) (by omega) (by omega)).trans ((hf_13 6 (by omega) (by omega) (by omega)).trans ((hf_7 6 (by omega) (by omega)).trans rfl))))⟩, ⟨_, (hT7.keep ((hf_19 7 (by omega) (by omega) (by omega)).trans ((hf_13 7 (by omega) (by omega) (by omega)).trans ((hf_7 7 (by omega) (by omega)).trans rfl))) ((hf_19 8 (by omega) (by omega) (by omega)).trans ((hf_13 8 (by omega) (by omega) (by omega)).trans ((hf_7 8 (by omega) (by omega)).trans rfl)))), rfl, z7⟩, hg7, ⟨_, (hT9.keep ((hf_19 9 (by omega) (by omega) (by omega)).trans ((hf_13 9 (by omega) (by omega) (by omega)).trans ((hf_7 9 (by omega) (by omega)).trans rfl))) ((hf_19 10 (by omega) (by omega) (by omega)).trans ((hf_13 10 (by omega) (by omega) (by omega)).trans ((hf_7 10 (by omega) (by omega)).trans rfl)))), rfl, z9⟩, hg9, ⟨_, _, _, (hO11.keep ((hf_19 11 (by omega) (by omega) (by omega)).trans ((hf_13 11 (by omega) (by omega) (by omega)).trans ((hf_7 11 (by omega) (by omega)).trans rfl))) ((hf_19 12 (by omega) (by omega) (by omega)).trans ((hf_13 12 (by omega) (by omega) (by omega)).trans ((hf_7 12 (by omega) (by omega)).trans rfl))) ((hf_19 13 (by omega) (by omega) (by omega)).trans ((hf_13 13 (by omega) (by omega) (by omega)).trans ((hf_7 13 (by omega) (by omega)).trans rfl))))⟩, (hRd_12.keep (fun k r0 r1 => ((hf_19 k (by omega) (by omega) (by omega)).trans rfl))), ⟨_, _, _, _, _, (hM.keep (fun k r0 r1 => ((hf_19 k (by omega) (by omega) (by omega)).trans ((hf_13 k (by omega) (by omega) (by omega)).trans ((hf_7 k (by omega) (by omega)).trans rfl)))))⟩, hH_18, (hX.keep ((hf_19 36 (by omega) (by omega) (by omega)).trans ((hf_13 36 (by omega) (by omega) (by omega)).trans ((hf_7 36 (by omega) (by omega)).trans rfl))) ((hf_19 37 (by omega) (by omega) (by omega)).trans ((hf_13 37 (by omega) (by omega) (by omega)).trans ((hf_7 37 (by omega) (by omega)).trans rfl)))), (hB.keep ((hf_19 38 (by omega) (by omega) (by omega)).trans ((hf_13 38 (by omega) (by omega) (by omega)).trans ((hf_7 38 (by omega) (by omega)).trans rfl))) ((hf_19 39 (by omega) (by omega) (by omega)).trans ((hf_13 39 (by omega) (by omega) (by omega)).trans ((hf_7 39 (by omega) (by omega)).trans rfl))) ((hf_19 40 (by omega) (by omega) (by omega)).trans ((hf_13 40 (by omega) (by omega) (by omega)).trans ((hf_7 40 (by omega) (by omega)).trans rfl))))⟩, (fun k n0 => ((hf_19 k (by omega) (by omega) (by omega)).trans ((hf_13 k (by omega) (by omega) (by omega)).trans ((hf_7 k (by omega) (by omega)).trans rfl))))⟩
      · refine A_bipush (q := 20) X dX8_run_18 (by decide) rfl ?_
        have e9 : fRun s n (T1.1, x, hs, T7.1, T9.1, o, sd) = (-2, (T1.1, x, hs, T7.1, T9.1, o, sd)) := by unfold fRun; dsimp only; rw [if_neg (by omega)]
        exact A_ireturn X dX8_run_20 ⟨by rw [e9], by rw [e9]; exact ⟨hN, h0, ⟨_, hT1, rfl, z1⟩, hgd, ⟨_, hT3⟩, ⟨_, hT5⟩, ⟨_, hT7, rfl, z7⟩, hg7, ⟨_, hT9, rfl, z9⟩, hg9, ⟨_, _, _, hO11⟩, hRd, ⟨_, _, _, _, _, hM⟩, hH, hX, hB⟩, (fun k n0 => rfl)⟩
set_option maxRecDepth 100000 in
set_option maxHeartbeats 4000000 in
theorem c_X8_abstractTerm {l : Launch} {G : Gm} {c : HP} {tm x : List Int} {hs : List (List Int)} {s0 s1 : List Int} {o : List (Int × Int)} {sd : Int64} (hG : injG G)  (hW : WX G c (tm, x, hs, s0, s1, o, sd)) : AMet l G yX8_abstractTerm cX8_abstractTerm 1 ((some .int)) (rmR 3 81) [.ref (G.1 0)] c (Qi (fun v c' => v = zI (fAbs (tm, x, hs, s0, s1, o, sd)).1 ∧ WX G c' (fAbs (tm, x, hs, s0, s1, o, sd)).2 ∧ (∀ k, 55 ≤ k → c' k = c k))) := by
  refine AMet.of (vl := [some (.ref (G.1 0))]) (by decide) hG (Nat.le_of_ble_eq_true rfl) rfl ?_
  intro K X
  have X : Fx l G K cX8_abstractTerm 1 RX8 ((some .int)) (rmR 3 81) := X
  have hW0 := hW
  obtain ⟨hN, h0, ⟨T1, hT1, eT1, z1⟩, hgd, ⟨T3, hT3⟩, ⟨T5, hT5⟩, ⟨T7, hT7, eT7, z7⟩, hg7, ⟨T9, hT9, eT9, z9⟩, hg9, ⟨n11, E11, D11, hO11⟩, hRd, ⟨P0, Q0, X0, ap0, pk0, hM⟩, hH, hX, hB⟩ := hW
  dsimp only at h0 eT1 hgd eT7 hg7 eT9 hg9 hH hX hB
  subst eT1 eT7 eT9
  obtain ⟨p33, h33⟩ := hH.cell
  have hl1 := hT1.len
  have hl7 := hT7.len
  have hl9 := hT9.len
  have hxl := hX.2.1
  refine A_aload_n (q := 1) X dX8_abstractTerm_0 rfl rfl ?_
  refine A_getf (q := 4) X fX8_16 dX8_abstractTerm_1 (by omega) h0 rfl rfl ?_
  refine A_aload_n (q := 5) X dX8_abstractTerm_4 rfl rfl ?_
  refine A_getf (q := 8) X fX8_10 dX8_abstractTerm_5 (by omega) h0 rfl rfl ?_
  refine A_V1v (q := 11) X (c_X6_copyFrom hG hT3 hT1 (by omega) (by omega) (by omega) (by omega)) mX6_copyFrom kX8_128 dX8_abstractTerm_8 (by omega) hT3.cell rfl (by decide) (Nat.le_of_ble_eq_true rfl) rfl (fun cq_2 hq_1 => ?_)
  obtain ⟨hT_3, hf_4⟩ := hq_1
  refine A_aload_n (q := 12) X dX8_abstractTerm_11 rfl rfl ?_
  refine A_getf (q := 15) X fX8_16 dX8_abstractTerm_12 (by omega) ((hf_4 _ (by omega) (by omega)).trans h0) rfl rfl ?_
  refine A_V0i (q := 18) X (c_X6_wrapInAbstraction hG hT_3) mX6_wrapInAbstraction kX8_142 dX8_abstractTerm_15 (by omega) hT_3.cell rfl (by decide) (Nat.le_of_ble_eq_true rfl) rfl (fun vq_7 cq_6 hq_5 => ?_)
  obtain ⟨rfl, hwy, hwn, hwf⟩ := hq_5
  refine A_beq (q := 21) (t := 28) X dX8_abstractTerm_18 rfl rfl (fun hb18 => ?_) (fun hb18 => ?_)
  · refine A_bipush (q := 30) X dX8_abstractTerm_28 (by decide) rfl ?_
    obtain rfl := (hwn (by assumption)).symm
    have e9 : fAbs (T1.1, x, hs, T7.1, T9.1, o, sd) = (-4, (T1.1, x, hs, T7.1, T9.1, o, sd)) := by unfold fAbs; dsimp only; rw [if_neg (by assumption)]
    exact A_ireturn X dX8_abstractTerm_30 ⟨by rw [e9], by rw [e9]; exact ⟨hN, ((hf_4 _ (by omega) (by omega)).trans h0), ⟨_, (hT1.keep ((hf_4 1 (by omega) (by omega)).trans rfl) ((hf_4 2 (by omega) (by omega)).trans rfl)), rfl, z1⟩, hgd, ⟨_, hT_3⟩, ⟨_, (hT5.keep ((hf_4 5 (by omega) (by omega)).trans rfl) ((hf_4 6 (by omega) (by omega)).trans rfl))⟩, ⟨_, (hT7.keep ((hf_4 7 (by omega) (by omega)).trans rfl) ((hf_4 8 (by omega) (by omega)).trans rfl)), rfl, z7⟩, hg7, ⟨_, (hT9.keep ((hf_4 9 (by omega) (by omega)).trans rfl) ((hf_4 10 (by omega) (by omega)).trans rfl)), rfl, z9⟩, hg9, ⟨_, _, _, (hO11.keep ((hf_4 11 (by omega) (by omega)).trans rfl) ((hf_4 12 (by omega) (by omega)).trans rfl) ((hf_4 13 (by omega) (by omega)).trans rfl))⟩, (hRd.keep (fun k r0 r1 => ((hf_4 k (by omega) (by omega)).trans rfl))), ⟨_, _, _, _, _, (hM.keep (fun k r0 r1 => ((hf_4 k (by omega) (by omega)).trans rfl)))⟩, (hH.keep (fun k r0 => ((hf_4 k (by omega) (by omega)).trans rfl))), (hX.keep ((hf_4 36 (by omega) (by omega)).trans rfl) ((hf_4 37 (by omega) (by omega)).trans rfl)), (hB.keep ((hf_4 38 (by omega) (by omega)).trans rfl) ((hf_4 39 (by omega) (by omega)).trans rfl) ((hf_4 40 (by omega) (by omega)).trans rfl))⟩, (fun k n0 => ((hf_4 k (by omega) (by omega)).trans rfl))⟩
  · have hT3y := hwy (by assumption)
    refine A_aload_n (q := 22) X dX8_abstractTerm_21 rfl rfl ?_
    refine A_V0i (q := 25) X (c_X8_actWithCopy hG hN ((hwf _ (by omega) (by omega)).trans ((hf_4 _ (by omega) (by omega)).trans h0)) (hT1.keep ((hwf 1 (by omega) (by omega)).trans ((hf_4 1 (by omega) (by omega)).trans rfl)) ((hwf 2 (by omega) (by omega)).trans ((hf_4 2 (by omega) (by omega)).trans rfl))) hgd hT3y (hH.keep (fun k r0 => ((hwf k (by omega) (by omega)).trans ((hf_4 k (by omega) (by omega)).trans rfl))))) mX8_actWithCopy kX8_135 dX8_abstractTerm_22 (by omega) ((hwf _ (by omega) (by omega)).trans ((hf_4 _ (by omega) (by omega)).trans h0)) rfl (by decide) (Nat.le_of_ble_eq_true rfl) rfl (fun vq_10 cq_9 hq_8 => ?_)
    obtain ⟨rfl, hT_11, hH_12, hf_13⟩ := hq_8
    refine A_goto (q := 30) X dX8_abstractTerm_25 rfl ?_
    have e9 : fAbs (T1.1, x, hs, T7.1, T9.1, o, sd) = (((T1.1.length : Nat) : Int) + 1, (((1001 :: T1.1, T1.2) : List Int × Int).1, x, (psh hs T1.1), T7.1, T9.1, o, sd)) := by unfold fAbs; dsimp only; rw [if_pos (by assumption)]; unfold actS; rfl
    exact A_ireturn X dX8_abstractTerm_30 ⟨by rw [e9]; rfl, by rw [e9]; exact ⟨hN, ((hf_13 _ (by omega) (by omega) (by omega)).trans ((hwf _ (by omega) (by omega)).trans ((hf_4 _ (by omega) (by omega)).trans h0))), ⟨_, hT_11, rfl, z1⟩, (Gd_abs hgd (by assumption)), ⟨_, (hT3y.keep ((hf_13 3 (by omega) (by omega) (by omega)).trans rfl) ((hf_13 4 (by omega) (by omega) (by omega)).trans rfl))⟩, ⟨_, (hT5.keep ((hf_13 5 (by omega) (by omega) (by omega)).trans ((hwf 5 (by omega) (by omega)).trans ((hf_4 5 (by omega) (by omega)).trans rfl))) ((hf_13 6 (by omega) (by omega) (by omega)).trans ((hwf 6 (by omega) (by omega)).trans ((hf_4 6 (by omega) (by omega)).trans rfl))))⟩, ⟨_, (hT7.keep ((hf_13 7 (by omega) (by omega) (by omega)).trans ((hwf 7 (by omega) (by omega)).trans ((hf_4 7 (by omega) (by omega)).trans rfl))) ((hf_13 8 (by omega) (by omega) (by omega)).trans ((hwf 8 (by omega) (by omega)).trans ((hf_4 8 (by omega) (by omega)).trans rfl)))), rfl, z7⟩, hg7, ⟨_, (hT9.keep ((hf_13 9 (by omega) (by omega) (by omega)).trans ((hwf 9 (by omega) (by omega)).trans ((hf_4 9 (by omega) (by omega)).trans rfl))) ((hf_13 10 (by omega) (by omega) (by omega)).trans ((hwf 10 (by omega) (by omega)).trans ((hf_4 10 (by omega) (by omega)).trans rfl)))), rfl, z9⟩, hg9, ⟨_, _, _, (hO11.keep ((hf_13 11 (by omega) (by omega) (by omega)).trans ((hwf 11 (by omega) (by omega)).trans ((hf_4 11 (by omega) (by omega)).trans rfl))) ((hf_13 12 (by omega) (by omega) (by omega)).trans ((hwf 12 (by omega) (by omega)).trans ((hf_4 12 (by omega) (by omega)).trans rfl))) ((hf_13 13 (by omega) (by omega) (by omega)).trans ((hwf 13 (by omega) (by omega)).trans ((hf_4 13 (by omega) (by omega)).trans rfl))))⟩, (hRd.keep (fun k r0 r1 => ((hf_13 k (by omega) (by omega) (by omega)).trans ((hwf k (by omega) (by omega)).trans ((hf_4 k (by omega) (by omega)).trans rfl))))), ⟨_, _, _, _, _, (hM.keep (fun k r0 r1 => ((hf_13 k (by omega) (by omega) (by omega)).trans ((hwf k (by omega) (by omega)).trans ((hf_4 k (by omega) (by omega)).trans rfl)))))⟩, hH_12, (hX.keep ((hf_13 36 (by omega) (by omega) (by omega)).trans ((hwf 36 (by omega) (by omega)).trans ((hf_4 36 (by omega) (by omega)).trans rfl))) ((hf_13 37 (by omega) (by omega) (by omega)).trans ((hwf 37 (by omega) (by omega)).trans ((hf_4 37 (by omega) (by omega)).trans rfl)))), (hB.keep ((hf_13 38 (by omega) (by omega) (by omega)).trans ((hwf 38 (by omega) (by omega)).trans ((hf_4 38 (by omega) (by omega)).trans rfl))) ((hf_13 39 (by omega) (by omega) (by omega)).trans ((hwf 39 (by omega) (by omega)).trans ((hf_4 39 (by omega) (by omega)).trans rfl))) ((hf_13 40 (by omega) (by omega) (by omega)).trans ((hwf 40 (by omega) (by omega)).trans ((hf_4 40 (by omega) (by omega)).trans rfl))))⟩, (fun k n0 => ((hf_13 k (by omega) (by omega) (by omega)).trans ((hwf k (by omega) (by omega)).trans ((hf_4 k (by omega) (by omega)).trans rfl))))⟩
set_option maxRecDepth 100000 in
set_option maxHeartbeats 4000000 in
theorem c_X8_applyTo {l : Launch} {G : Gm} {c : HP} {tm x : List Int} {hs : List (List Int)} {s0 s1 : List Int} {o : List (Int × Int)} {sd : Int64} {k : Int} (hG : injG G) (hkr : rg k) (hW : WX G c (tm, x, hs, s0, s1, o, sd)) : AMet l G yX8_applyTo cX8_applyTo 3 ((some .int)) (rmR 3 81) [.ref (G.1 0), .int (zI k)] c (Qi (fun v c' => v = zI (fApply k (tm, x, hs, s0, s1, o, sd)).1 ∧ WX G c' (fApply k (tm, x, hs, s0, s1, o, sd)).2 ∧ (∀ k, 55 ≤ k → c' k = c k))) := by
  refine AMet.of (vl := [some (.ref (G.1 0)), some (.int (zI k))]) (by decide) hG (Nat.le_of_ble_eq_true rfl) rfl ?_
  intro K X
  have X : Fx l G K cX8_applyTo 3 RX8 ((some .int)) (rmR 3 81) := X
  have hW0 := hW
  obtain ⟨hN, h0, ⟨T1, hT1, eT1, z1⟩, hgd, ⟨T3, hT3⟩, ⟨T5, hT5⟩, ⟨T7, hT7, eT7, z7⟩, hg7, ⟨T9, hT9, eT9, z9⟩, hg9, ⟨n11, E11, D11, hO11⟩, hRd, ⟨P0, Q0, X0, ap0, pk0, hM⟩, hH, hX, hB⟩ := hW
  dsimp only at h0 eT1 hgd eT7 hg7 eT9 hg9 hH hX hB
  subst eT1 eT7 eT9
  obtain ⟨p33, h33⟩ := hH.cell
  have hl1 := hT1.len
  have hl7 := hT7.len
  have hl9 := hT9.len
  have hxl := hX.2.1
  refine A_iload_n (q := 1) X dX8_applyTo_0 rfl rfl ?_
  refine A_S1i (q := 4) X (c_X8_isSlot hG (by omega)) mX8_isSlot kX8_146 dX8_applyTo_1 (by decide) (Nat.le_of_ble_eq_true rfl) rfl (fun vq_3 cq_2 hq_1 => ?_)
  obtain ⟨rfl, hq_1⟩ := hq_1
  obtain rfl := hq_1.symm
  refine A_bne (q := 7) (t := 9) X dX8_applyTo_4 rfl rfl (fun hb4 => ?_) (fun hb4 => ?_)
  · refine A_aload_n (q := 10) X dX8_applyTo_9 rfl rfl ?_
    refine A_iload_n (q := 11) X dX8_applyTo_10 rfl rfl ?_
    refine A_V1r (q := 14) X (c_X8_slotTerm hG (by omega) hW0) mX8_slotTerm kX8_149 dX8_applyTo_11 (by omega) h0 rfl (by decide) (Nat.le_of_ble_eq_true rfl) rfl (fun vq_6 cq_5 hq_4 => ?_)
    obtain ⟨hqs, hq_4⟩ := hq_4
    obtain rfl := hq_4.symm
    by_cases hk0 : k = 0
    · rw [if_pos hk0] at hqs
      subst hqs
      have es : sltS (T1.1, x, hs, T7.1, T9.1, o, sd) k = T7.1 := by unfold sltS; rw [if_pos hk0]
      refine A_astore_n (q := 15) X dX8_applyTo_14 (by decide) (okP_s rfl rfl) rfl ?_
      refine A_aload_n (q := 16) X dX8_applyTo_15 rfl rfl ?_
      refine A_V0i (q := 19) X (c_X6_length hG hT7) mX6_length kX8_100 dX8_applyTo_16 (by omega) hT7.cell rfl (by decide) (Nat.le_of_ble_eq_true rfl) rfl (fun vq_9 cq_8 hq_7 => ?_)
      obtain ⟨rfl, hq_7⟩ := hq_7
      obtain rfl := hq_7.symm
      refine A_if_ne (q := 22) (t := 25) X dX8_applyTo_19 (by omega) rfl rfl (fun hb19 => ?_) (fun hb19 => ?_)
      · have hgs : Gd T7.1 := by rcases hg7 with h | h; (exact absurd (by rw [h]; rfl) (show ¬ T7.1.length = 0 by omega)); exact h
        refine A_aload_n (q := 26) X dX8_applyTo_25 rfl rfl ?_
        refine A_getf (q := 29) X fX8_16 dX8_applyTo_26 (by omega) h0 rfl rfl ?_
        refine A_V0v (q := 32) X (c_X6_clear hG hT3) mX6_clear kX8_99 dX8_applyTo_29 (by omega) hT3.cell rfl (by decide) (Nat.le_of_ble_eq_true rfl) rfl (fun cq_11 hq_10 => ?_)
        obtain ⟨hT_12, hf_13⟩ := hq_10
        refine A_aload_n (q := 33) X dX8_applyTo_32 rfl rfl ?_
        refine A_getf (q := 36) X fX8_16 dX8_applyTo_33 (by omega) ((hf_13 _ (by omega) (by omega)).trans h0) rfl rfl ?_
        refine A_sipush (q := 39) X dX8_applyTo_36 (by decide) rfl ?_
        refine A_V1v (q := 42) X (c_X6_add (t := 1000) hG hT_12) mX6_add kX8_74 dX8_applyTo_39 (by omega) hT_12.cell rfl (by decide) (Nat.le_of_ble_eq_true rfl) rfl (fun cq_15 hq_14 => ?_)
        obtain ⟨hT_16, hf_17⟩ := hq_14
        refine A_aload_n (q := 43) X dX8_applyTo_42 rfl rfl ?_
        refine A_getf (q := 46) X fX8_16 dX8_applyTo_43 (by omega) ((hf_17 _ (by omega) (by omega)).trans ((hf_13 _ (by omega) (by omega)).trans h0)) rfl rfl ?_
        refine A_aload_n (q := 47) X dX8_applyTo_46 rfl rfl ?_
        refine A_getf (q := 50) X fX8_10 dX8_applyTo_47 (by omega) ((hf_17 _ (by omega) (by omega)).trans ((hf_13 _ (by omega) (by omega)).trans h0)) rfl rfl ?_
        refine A_iconst (q := 51) X dX8_applyTo_50 rfl ?_
        refine A_aload_n (q := 52) X dX8_applyTo_51 rfl rfl ?_
        refine A_getf (q := 55) X fX8_10 dX8_applyTo_52 (by omega) ((hf_17 _ (by omega) (by omega)).trans ((hf_13 _ (by omega) (by omega)).trans h0)) rfl rfl ?_
        refine A_V0i (q := 58) X (c_X6_length hG (hT1.keep ((hf_17 1 (by omega) (by omega)).trans ((hf_13 1 (by omega) (by omega)).trans rfl)) ((hf_17 2 (by omega) (by omega)).trans ((hf_13 2 (by omega) (by omega)).trans rfl)))) mX6_length kX8_100 dX8_applyTo_55 (by omega) (hT1.keep ((hf_17 1 (by omega) (by omega)).trans ((hf_13 1 (by omega) (by omega)).trans rfl)) ((hf_17 2 (by omega) (by omega)).trans ((hf_13 2 (by omega) (by omega)).trans rfl))).cell rfl (by decide) (Nat.le_of_ble_eq_true rfl) rfl (fun vq_20 cq_19 hq_18 => ?_)
        obtain ⟨rfl, hq_18⟩ := hq_18
        obtain rfl := hq_18.symm
        refine A_V3v (q := 61) X (c_X6_addRange (i := 0) (j := (T1.1.length)) hG hT_16 (hT1.keep ((hf_17 1 (by omega) (by omega)).trans ((hf_13 1 (by omega) (by omega)).trans rfl)) ((hf_17 2 (by omega) (by omega)).trans ((hf_13 2 (by omega) (by omega)).trans rfl))) (by omega) (by omega) (by omega) (by omega) (by omega) (by omega)) mX6_addRange kX8_153 dX8_applyTo_58 (by omega) hT_16.cell rfl (by decide) (Nat.le_of_ble_eq_true rfl) rfl (fun cq_22 hq_21 => ?_)
        obtain ⟨hT_23, hf_24⟩ := hq_21
        refine A_aload_n (q := 62) X dX8_applyTo_61 rfl rfl ?_
        refine A_getf (q := 65) X fX8_16 dX8_applyTo_62 (by omega) ((hf_24 _ (by omega) (by omega)).trans ((hf_17 _ (by omega) (by omega)).trans ((hf_13 _ (by omega) (by omega)).trans h0))) rfl rfl ?_
        refine A_aload_n (q := 66) X dX8_applyTo_65 rfl rfl ?_
        refine A_iconst (q := 67) X dX8_applyTo_66 rfl ?_
        refine A_aload_n (q := 68) X dX8_applyTo_67 rfl rfl ?_
        refine A_V0i (q := 71) X (c_X6_length hG (hT7.keep ((hf_24 7 (by omega) (by omega)).trans ((hf_17 7 (by omega) (by omega)).trans ((hf_13 7 (by omega) (by omega)).trans rfl))) ((hf_24 8 (by omega) (by omega)).trans ((hf_17 8 (by omega) (by omega)).trans ((hf_13 8 (by omega) (by omega)).trans rfl))))) mX6_length kX8_100 dX8_applyTo_68 (by omega) (hT7.keep ((hf_24 7 (by omega) (by omega)).trans ((hf_17 7 (by omega) (by omega)).trans ((hf_13 7 (by omega) (by omega)).trans rfl))) ((hf_24 8 (by omega) (by omega)).trans ((hf_17 8 (by omega) (by omega)).trans ((hf_13 8 (by omega) (by omega)).trans rfl)))).cell rfl (by decide) (Nat.le_of_ble_eq_true rfl) rfl (fun vq_27 cq_26 hq_25 => ?_)
        obtain ⟨rfl, hq_25⟩ := hq_25
        obtain rfl := hq_25.symm
        refine A_V3v (q := 74) X (c_X6_addRange (i := 0) (j := (T7.1.length)) hG hT_23 (hT7.keep ((hf_24 7 (by omega) (by omega)).trans ((hf_17 7 (by omega) (by omega)).trans ((hf_13 7 (by omega) (by omega)).trans rfl))) ((hf_24 8 (by omega) (by omega)).trans ((hf_17 8 (by omega) (by omega)).trans ((hf_13 8 (by omega) (by omega)).trans rfl)))) (by omega) (by omega) (by omega) (by omega) (by omega) (by omega)) mX6_addRange kX8_153 dX8_applyTo_71 (by omega) hT_23.cell rfl (by decide) (Nat.le_of_ble_eq_true rfl) rfl (fun cq_29 hq_28 => ?_)
        obtain ⟨hT_30, hf_31⟩ := hq_28
        refine A_aload_n (q := 75) X dX8_applyTo_74 rfl rfl ?_
        refine A_getf (q := 78) X fX8_16 dX8_applyTo_75 (by omega) ((hf_31 _ (by omega) (by omega)).trans ((hf_24 _ (by omega) (by omega)).trans ((hf_17 _ (by omega) (by omega)).trans ((hf_13 _ (by omega) (by omega)).trans h0)))) rfl rfl ?_
        refine A_V0i (q := 81) X (c_X6_isTooLarge hG hT_30) mX6_isTooLarge kX8_157 dX8_applyTo_78 (by omega) hT_30.cell rfl (by decide) (Nat.le_of_ble_eq_true rfl) rfl (fun vq_34 cq_33 hq_32 => ?_)
        obtain ⟨rfl, hq_32⟩ := hq_32
        obtain rfl := hq_32.symm
        have hrs : Rs (tRange (tRange (tAdd (([], 0) : List Int × Int) 1000) T1.1 0 (T1.1.length)) T7.1 0 (T7.1.length)) (1000 :: (T1.1 ++ T7.1)) := by
          have q0 : Rs (([], 0) : List Int × Int) [] := Or.inl ⟨rfl, rfl⟩
          have q1 := Rs_add 1000 q0 (by decide)
          have q2 := Rs_range (l := T1.1) (i := 0) (j := T1.1.length) q1 (by omega) (by omega)
          have q3 := Rs_range (l := T7.1) (i := 0) (j := T7.1.length) q2 (by omega) (by omega)
          rw [List.drop_zero, List.drop_zero, Nat.sub_zero, Nat.sub_zero, List.take_length, List.take_length] at q3
          simpa using q3
        have hb01 := hT_30.b01
        have hl3 := hT_30.len
        refine A_if_eq (q := 84) (t := 89) X dX8_applyTo_81 (by omega) rfl rfl (fun hb81 => ?_) (fun hb81 => ?_)
        · have e3 := Rs_0 hrs (by omega)
          have el : (1000 :: (T1.1 ++ T7.1)).length ≤ 200 := by rw [e3] at hl3; exact hl3
          have hT3y := hT_30
          rw [e3] at hT3y
          refine A_aload_n (q := 90) X dX8_applyTo_89 rfl rfl ?_
          refine A_V0i (q := 93) X (c_X8_actWithCopy hG hN ((hf_31 _ (by omega) (by omega)).trans ((hf_24 _ (by omega) (by omega)).trans ((hf_17 _ (by omega) (by omega)).trans ((hf_13 _ (by omega) (by omega)).trans h0)))) (hT1.keep ((hf_31 1 (by omega) (by omega)).trans ((hf_24 1 (by omega) (by omega)).trans ((hf_17 1 (by omega) (by omega)).trans ((hf_13 1 (by omega) (by omega)).trans rfl)))) ((hf_31 2 (by omega) (by omega)).trans ((hf_24 2 (by omega) (by omega)).trans ((hf_17 2 (by omega) (by omega)).trans ((hf_13 2 (by omega) (by omega)).trans rfl))))) hgd hT3y (hH.keep (fun k r0 => ((hf_31 k (by omega) (by omega)).trans ((hf_24 k (by omega) (by omega)).trans ((hf_17 k (by omega) (by omega)).trans ((hf_13 k (by omega) (by omega)).trans rfl))))))) mX8_actWithCopy kX8_135 dX8_applyTo_90 (by omega) ((hf_31 _ (by omega) (by omega)).trans ((hf_24 _ (by omega) (by omega)).trans ((hf_17 _ (by omega) (by omega)).trans ((hf_13 _ (by omega) (by omega)).trans h0)))) rfl (by decide) (Nat.le_of_ble_eq_true rfl) rfl (fun vq_37 cq_36 hq_35 => ?_)
          obtain ⟨rfl, hT_38, hH_39, hf_40⟩ := hq_35
          have e9 : fApply k (T1.1, x, hs, T7.1, T9.1, o, sd) = ((((1000 :: (T1.1 ++ T7.1)).length : Nat) : Int), (((1000 :: (T1.1 ++ T7.1), 0) : List Int × Int).1, x, (psh hs T1.1), T7.1, T9.1, o, sd)) := by unfold fApply; rw [es]; dsimp only; rw [if_pos (by omega), if_neg (by omega), if_pos el]; unfold actS; rfl
          exact A_ireturn X dX8_applyTo_93 ⟨by rw [e9], by rw [e9]; exact ⟨hN, ((hf_40 _ (by omega) (by omega) (by omega)).trans ((hf_31 _ (by omega) (by omega)).trans ((hf_24 _ (by omega) (by omega)).trans ((hf_17 _ (by omega) (by omega)).trans ((hf_13 _ (by omega) (by omega)).trans h0))))), ⟨_, hT_38, rfl, rfl⟩, (Gd_appl hgd hgs el), ⟨_, (hT3y.keep ((hf_40 3 (by omega) (by omega) (by omega)).trans rfl) ((hf_40 4 (by omega) (by omega) (by omega)).trans rfl))⟩, ⟨_, (hT5.keep ((hf_40 5 (by omega) (by omega) (by omega)).trans ((hf_31 5 (by omega) (by omega)).trans ((hf_24 5 (by omega) (by omega)).trans ((hf_17 5 (by omega) (by omega)).trans ((hf_13 5 (by omega) (by omega)).trans rfl))))) ((hf_40 6 (by omega) (by omega) (by omega)).trans ((hf_31 6 (by omega) (by omega)).trans ((hf_24 6 (by omega) (by omega)).trans ((hf_17 6 (by omega) (by omega)).trans ((hf_13 6 (by omega) (by omega)).trans rfl))))))⟩, ⟨_, (hT7.keep ((hf_40 7 (by omega) (by omega) (by omega)).trans ((hf_31 7 (by omega) (by omega)).trans ((hf_24 7 (by omega) (by omega)).trans ((hf_17 7 (by omega) (by omega)).trans ((hf_13 7 (by omega) (by omega)).trans rfl))))) ((hf_40 8 (by omega) (by omega) (by omega)).trans ((hf_31 8 (by omega) (by omega)).trans ((hf_24 8 (by omega) (by omega)).trans ((hf_17 8 (by omega) (by omega)).trans ((hf_13 8 (by omega) (by omega)).trans rfl)))))), rfl, z7⟩, hg7, ⟨_, (hT9.keep ((hf_40 9 (by omega) (by omega) (by omega)).trans ((hf_31 9 (by omega) (by omega)).trans ((hf_24 9 (by omega) (by omega)).trans ((hf_17 9 (by omega) (by omega)).trans ((hf_13 9 (by omega) (by omega)).trans rfl))))) ((hf_40 10 (by omega) (by omega) (by omega)).trans ((hf_31 10 (by omega) (by omega)).trans ((hf_24 10 (by omega) (by omega)).trans ((hf_17 10 (by omega) (by omega)).trans ((hf_13 10 (by omega) (by omega)).trans rfl)))))), rfl, z9⟩, hg9, ⟨_, _, _, (hO11.keep ((hf_40 11 (by omega) (by omega) (by omega)).trans ((hf_31 11 (by omega) (by omega)).trans ((hf_24 11 (by omega) (by omega)).trans ((hf_17 11 (by omega) (by omega)).trans ((hf_13 11 (by omega) (by omega)).trans rfl))))) ((hf_40 12 (by omega) (by omega) (by omega)).trans ((hf_31 12 (by omega) (by omega)).trans ((hf_24 12 (by omega) (by omega)).trans ((hf_17 12 (by omega) (by omega)).trans ((hf_13 12 (by omega) (by omega)).trans rfl))))) ((hf_40 13 (by omega) (by omega) (by omega)).trans ((hf_31 13 (by omega) (by omega)).trans ((hf_24 13 (by omega) (by omega)).trans ((hf_17 13 (by omega) (by omega)).trans ((hf_13 13 (by omega) (by omega)).trans rfl))))))⟩, (hRd.keep (fun k r0 r1 => ((hf_40 k (by omega) (by omega) (by omega)).trans ((hf_31 k (by omega) (by omega)).trans ((hf_24 k (by omega) (by omega)).trans ((hf_17 k (by omega) (by omega)).trans ((hf_13 k (by omega) (by omega)).trans rfl))))))), ⟨_, _, _, _, _, (hM.keep (fun k r0 r1 => ((hf_40 k (by omega) (by omega) (by omega)).trans ((hf_31 k (by omega) (by omega)).trans ((hf_24 k (by omega) (by omega)).trans ((hf_17 k (by omega) (by omega)).trans ((hf_13 k (by omega) (by omega)).trans rfl)))))))⟩, hH_39, (hX.keep ((hf_40 36 (by omega) (by omega) (by omega)).trans ((hf_31 36 (by omega) (by omega)).trans ((hf_24 36 (by omega) (by omega)).trans ((hf_17 36 (by omega) (by omega)).trans ((hf_13 36 (by omega) (by omega)).trans rfl))))) ((hf_40 37 (by omega) (by omega) (by omega)).trans ((hf_31 37 (by omega) (by omega)).trans ((hf_24 37 (by omega) (by omega)).trans ((hf_17 37 (by omega) (by omega)).trans ((hf_13 37 (by omega) (by omega)).trans rfl)))))), (hB.keep ((hf_40 38 (by omega) (by omega) (by omega)).trans ((hf_31 38 (by omega) (by omega)).trans ((hf_24 38 (by omega) (by omega)).trans ((hf_17 38 (by omega) (by omega)).trans ((hf_13 38 (by omega) (by omega)).trans rfl))))) ((hf_40 39 (by omega) (by omega) (by omega)).trans ((hf_31 39 (by omega) (by omega)).trans ((hf_24 39 (by omega) (by omega)).trans ((hf_17 39 (by omega) (by omega)).trans ((hf_13 39 (by omega) (by omega)).trans rfl))))) ((hf_40 40 (by omega) (by omega) (by omega)).trans ((hf_31 40 (by omega) (by omega)).trans ((hf_24 40 (by omega) (by omega)).trans ((hf_17 40 (by omega) (by omega)).trans ((hf_13 40 (by omega) (by omega)).trans rfl))))))⟩, (fun k n0 => ((hf_40 k (by omega) (by omega) (by omega)).trans ((hf_31 k (by omega) (by omega)).trans ((hf_24 k (by omega) (by omega)).trans ((hf_17 k (by omega) (by omega)).trans ((hf_13 k (by omega) (by omega)).trans rfl))))))⟩
        · have el := Rs_1 hrs (by omega)
          refine A_bipush (q := 86) X dX8_applyTo_84 (by decide) rfl ?_
          refine A_goto (q := 93) X dX8_applyTo_86 rfl ?_
          have e9 : fApply k (T1.1, x, hs, T7.1, T9.1, o, sd) = (-4, (T1.1, x, hs, T7.1, T9.1, o, sd)) := by unfold fApply; rw [es]; dsimp only; rw [if_pos (by omega), if_neg (by omega), if_neg (by omega)]
          exact A_ireturn X dX8_applyTo_93 ⟨by rw [e9], by rw [e9]; exact ⟨hN, ((hf_31 _ (by omega) (by omega)).trans ((hf_24 _ (by omega) (by omega)).trans ((hf_17 _ (by omega) (by omega)).trans ((hf_13 _ (by omega) (by omega)).trans h0)))), ⟨_, (hT1.keep ((hf_31 1 (by omega) (by omega)).trans ((hf_24 1 (by omega) (by omega)).trans ((hf_17 1 (by omega) (by omega)).trans ((hf_13 1 (by omega) (by omega)).trans rfl)))) ((hf_31 2 (by omega) (by omega)).trans ((hf_24 2 (by omega) (by omega)).trans ((hf_17 2 (by omega) (by omega)).trans ((hf_13 2 (by omega) (by omega)).trans rfl))))), rfl, z1⟩, hgd, ⟨_, hT_30⟩, ⟨_, (hT5.keep ((hf_31 5 (by omega) (by omega)).trans ((hf_24 5 (by omega) (by omega)).trans ((hf_17 5 (by omega) (by omega)).trans ((hf_13 5 (by omega) (by omega)).trans rfl)))) ((hf_31 6 (by omega) (by omega)).trans ((hf_24 6 (by omega) (by omega)).trans ((hf_17 6 (by omega) (by omega)).trans ((hf_13 6 (by omega) (by omega)).trans rfl)))))⟩, ⟨_, (hT7.keep ((hf_31 7 (by omega) (by omega)).trans ((hf_24 7 (by omega) (by omega)).trans ((hf_17 7 (by omega) (by omega)).trans ((hf_13 7 (by omega) (by omega)).trans rfl)))) ((hf_31 8 (by omega) (by omega)).trans ((hf_24 8 (by omega) (by omega)).trans ((hf_17 8 (by omega) (by omega)).trans ((hf_13 8 (by omega) (by omega)).trans rfl))))), rfl, z7⟩, hg7, ⟨_, (hT9.keep ((hf_31 9 (by omega) (by omega)).trans ((hf_24 9 (by omega) (by omega)).trans ((hf_17 9 (by omega) (by omega)).trans ((hf_13 9 (by omega) (by omega)).trans rfl)))) ((hf_31 10 (by omega) (by omega)).trans ((hf_24 10 (by omega) (by omega)).trans ((hf_17 10 (by omega) (by omega)).trans ((hf_13 10 (by omega) (by omega)).trans rfl))))), rfl, z9⟩, hg9, ⟨_, _, _, (hO11.keep ((hf_31 11 (by omega) (by omega)).trans ((hf_24 11 (by omega) (by omega)).trans ((hf_17 11 (by omega) (by omega)).trans ((hf_13 11 (by omega) (by omega)).trans rfl)))) ((hf_31 12 (by omega) (by omega)).trans ((hf_24 12 (by omega) (by omega)).trans ((hf_17 12 (by omega) (by omega)).trans ((hf_13 12 (by omega) (by omega)).trans rfl)))) ((hf_31 13 (by omega) (by omega)).trans ((hf_24 13 (by omega) (by omega)).trans ((hf_17 13 (by omega) (by omega)).trans ((hf_13 13 (by omega) (by omega)).trans rfl)))))⟩, (hRd.keep (fun k r0 r1 => ((hf_31 k (by omega) (by omega)).trans ((hf_24 k (by omega) (by omega)).trans ((hf_17 k (by omega) (by omega)).trans ((hf_13 k (by omega) (by omega)).trans rfl)))))), ⟨_, _, _, _, _, (hM.keep (fun k r0 r1 => ((hf_31 k (by omega) (by omega)).trans ((hf_24 k (by omega) (by omega)).trans ((hf_17 k (by omega) (by omega)).trans ((hf_13 k (by omega) (by omega)).trans rfl))))))⟩, (hH.keep (fun k r0 => ((hf_31 k (by omega) (by omega)).trans ((hf_24 k (by omega) (by omega)).trans ((hf_17 k (by omega) (by omega)).trans ((hf_13 k (by omega) (by omega)).trans rfl)))))), (hX.keep ((hf_31 36 (by omega) (by omega)).trans ((hf_24 36 (by omega) (by omega)).trans ((hf_17 36 (by omega) (by omega)).trans ((hf_13 36 (by omega) (by omega)).trans rfl)))) ((hf_31 37 (by omega) (by omega)).trans ((hf_24 37 (by omega) (by omega)).trans ((hf_17 37 (by omega) (by omega)).trans ((hf_13 37 (by omega) (by omega)).trans rfl))))), (hB.keep ((hf_31 38 (by omega) (by omega)).trans ((hf_24 38 (by omega) (by omega)).trans ((hf_17 38 (by omega) (by omega)).trans ((hf_13 38 (by omega) (by omega)).trans rfl)))) ((hf_31 39 (by omega) (by omega)).trans ((hf_24 39 (by omega) (by omega)).trans ((hf_17 39 (by omega) (by omega)).trans ((hf_13 39 (by omega) (by omega)).trans rfl)))) ((hf_31 40 (by omega) (by omega)).trans ((hf_24 40 (by omega) (by omega)).trans ((hf_17 40 (by omega) (by omega)).trans ((hf_13 40 (by omega) (by omega)).trans rfl)))))⟩, (fun k n0 => ((hf_31 k (by omega) (by omega)).trans ((hf_24 k (by omega) (by omega)).trans ((hf_17 k (by omega) (by omega)).trans ((hf_13 k (by omega) (by omega)).trans rfl)))))⟩
      · refine A_bipush (q := 24) X dX8_applyTo_22 (by decide) rfl ?_
        have e9 : fApply k (T1.1, x, hs, T7.1, T9.1, o, sd) = (-3, (T1.1, x, hs, T7.1, T9.1, o, sd)) := by unfold fApply; rw [es]; dsimp only; repeat (first | rw [if_pos (by omega)] | rw [if_neg (by omega)])
        exact A_ireturn X dX8_applyTo_24 ⟨by rw [e9], by rw [e9]; exact ⟨hN, h0, ⟨_, hT1, rfl, z1⟩, hgd, ⟨_, hT3⟩, ⟨_, hT5⟩, ⟨_, hT7, rfl, z7⟩, hg7, ⟨_, hT9, rfl, z9⟩, hg9, ⟨_, _, _, hO11⟩, hRd, ⟨_, _, _, _, _, hM⟩, hH, hX, hB⟩, (fun k n0 => rfl)⟩
    · rw [if_neg hk0] at hqs
      subst hqs
      have es : sltS (T1.1, x, hs, T7.1, T9.1, o, sd) k = T9.1 := by unfold sltS; rw [if_neg hk0]
      refine A_astore_n (q := 15) X dX8_applyTo_14 (by decide) (okP_s rfl rfl) rfl ?_
      refine A_aload_n (q := 16) X dX8_applyTo_15 rfl rfl ?_
      refine A_V0i (q := 19) X (c_X6_length hG hT9) mX6_length kX8_100 dX8_applyTo_16 (by omega) hT9.cell rfl (by decide) (Nat.le_of_ble_eq_true rfl) rfl (fun vq_43 cq_42 hq_41 => ?_)
      obtain ⟨rfl, hq_41⟩ := hq_41
      obtain rfl := hq_41.symm
      refine A_if_ne (q := 22) (t := 25) X dX8_applyTo_19 (by omega) rfl rfl (fun hb19 => ?_) (fun hb19 => ?_)
      · have hgs : Gd T9.1 := by rcases hg9 with h | h; (exact absurd (by rw [h]; rfl) (show ¬ T9.1.length = 0 by omega)); exact h
        refine A_aload_n (q := 26) X dX8_applyTo_25 rfl rfl ?_
        refine A_getf (q := 29) X fX8_16 dX8_applyTo_26 (by omega) h0 rfl rfl ?_
        refine A_V0v (q := 32) X (c_X6_clear hG hT3) mX6_clear kX8_99 dX8_applyTo_29 (by omega) hT3.cell rfl (by decide) (Nat.le_of_ble_eq_true rfl) rfl (fun cq_45 hq_44 => ?_)
        obtain ⟨hT_46, hf_47⟩ := hq_44
        refine A_aload_n (q := 33) X dX8_applyTo_32 rfl rfl ?_
        refine A_getf (q := 36) X fX8_16 dX8_applyTo_33 (by omega) ((hf_47 _ (by omega) (by omega)).trans h0) rfl rfl ?_
        refine A_sipush (q := 39) X dX8_applyTo_36 (by decide) rfl ?_
        refine A_V1v (q := 42) X (c_X6_add (t := 1000) hG hT_46) mX6_add kX8_74 dX8_applyTo_39 (by omega) hT_46.cell rfl (by decide) (Nat.le_of_ble_eq_true rfl) rfl (fun cq_49 hq_48 => ?_)
        obtain ⟨hT_50, hf_51⟩ := hq_48
        refine A_aload_n (q := 43) X dX8_applyTo_42 rfl rfl ?_
        refine A_getf (q := 46) X fX8_16 dX8_applyTo_43 (by omega) ((hf_51 _ (by omega) (by omega)).trans ((hf_47 _ (by omega) (by omega)).trans h0)) rfl rfl ?_
        refine A_aload_n (q := 47) X dX8_applyTo_46 rfl rfl ?_
        refine A_getf (q := 50) X fX8_10 dX8_applyTo_47 (by omega) ((hf_51 _ (by omega) (by omega)).trans ((hf_47 _ (by omega) (by omega)).trans h0)) rfl rfl ?_
        refine A_iconst (q := 51) X dX8_applyTo_50 rfl ?_
        refine A_aload_n (q := 52) X dX8_applyTo_51 rfl rfl ?_
        refine A_getf (q := 55) X fX8_10 dX8_applyTo_52 (by omega) ((hf_51 _ (by omega) (by omega)).trans ((hf_47 _ (by omega) (by omega)).trans h0)) rfl rfl ?_
        refine A_V0i (q := 58) X (c_X6_length hG (hT1.keep ((hf_51 1 (by omega) (by omega)).trans ((hf_47 1 (by omega) (by omega)).trans rfl)) ((hf_51 2 (by omega) (by omega)).trans ((hf_47 2 (by omega) (by omega)).trans rfl)))) mX6_length kX8_100 dX8_applyTo_55 (by omega) (hT1.keep ((hf_51 1 (by omega) (by omega)).trans ((hf_47 1 (by omega) (by omega)).trans rfl)) ((hf_51 2 (by omega) (by omega)).trans ((hf_47 2 (by omega) (by omega)).trans rfl))).cell rfl (by decide) (Nat.le_of_ble_eq_true rfl) rfl (fun vq_54 cq_53 hq_52 => ?_)
        obtain ⟨rfl, hq_52⟩ := hq_52
        obtain rfl := hq_52.symm
        refine A_V3v (q := 61) X (c_X6_addRange (i := 0) (j := (T1.1.length)) hG hT_50 (hT1.keep ((hf_51 1 (by omega) (by omega)).trans ((hf_47 1 (by omega) (by omega)).trans rfl)) ((hf_51 2 (by omega) (by omega)).trans ((hf_47 2 (by omega) (by omega)).trans rfl))) (by omega) (by omega) (by omega) (by omega) (by omega) (by omega)) mX6_addRange kX8_153 dX8_applyTo_58 (by omega) hT_50.cell rfl (by decide) (Nat.le_of_ble_eq_true rfl) rfl (fun cq_56 hq_55 => ?_)
        obtain ⟨hT_57, hf_58⟩ := hq_55
        refine A_aload_n (q := 62) X dX8_applyTo_61 rfl rfl ?_
        refine A_getf (q := 65) X fX8_16 dX8_applyTo_62 (by omega) ((hf_58 _ (by omega) (by omega)).trans ((hf_51 _ (by omega) (by omega)).trans ((hf_47 _ (by omega) (by omega)).trans h0))) rfl rfl ?_
        refine A_aload_n (q := 66) X dX8_applyTo_65 rfl rfl ?_
        refine A_iconst (q := 67) X dX8_applyTo_66 rfl ?_
        refine A_aload_n (q := 68) X dX8_applyTo_67 rfl rfl ?_
        refine A_V0i (q := 71) X (c_X6_length hG (hT9.keep ((hf_58 9 (by omega) (by omega)).trans ((hf_51 9 (by omega) (by omega)).trans ((hf_47 9 (by omega) (by omega)).trans rfl))) ((hf_58 10 (by omega) (by omega)).trans ((hf_51 10 (by omega) (by omega)).trans ((hf_47 10 (by omega) (by omega)).trans rfl))))) mX6_length kX8_100 dX8_applyTo_68 (by omega) (hT9.keep ((hf_58 9 (by omega) (by omega)).trans ((hf_51 9 (by omega) (by omega)).trans ((hf_47 9 (by omega) (by omega)).trans rfl))) ((hf_58 10 (by omega) (by omega)).trans ((hf_51 10 (by omega) (by omega)).trans ((hf_47 10 (by omega) (by omega)).trans rfl)))).cell rfl (by decide) (Nat.le_of_ble_eq_true rfl) rfl (fun vq_61 cq_60 hq_59 => ?_)
        obtain ⟨rfl, hq_59⟩ := hq_59
        obtain rfl := hq_59.symm
        refine A_V3v (q := 74) X (c_X6_addRange (i := 0) (j := (T9.1.length)) hG hT_57 (hT9.keep ((hf_58 9 (by omega) (by omega)).trans ((hf_51 9 (by omega) (by omega)).trans ((hf_47 9 (by omega) (by omega)).trans rfl))) ((hf_58 10 (by omega) (by omega)).trans ((hf_51 10 (by omega) (by omega)).trans ((hf_47 10 (by omega) (by omega)).trans rfl)))) (by omega) (by omega) (by omega) (by omega) (by omega) (by omega)) mX6_addRange kX8_153 dX8_applyTo_71 (by omega) hT_57.cell rfl (by decide) (Nat.le_of_ble_eq_true rfl) rfl (fun cq_63 hq_62 => ?_)
        obtain ⟨hT_64, hf_65⟩ := hq_62
        refine A_aload_n (q := 75) X dX8_applyTo_74 rfl rfl ?_
        refine A_getf (q := 78) X fX8_16 dX8_applyTo_75 (by omega) ((hf_65 _ (by omega) (by omega)).trans ((hf_58 _ (by omega) (by omega)).trans ((hf_51 _ (by omega) (by omega)).trans ((hf_47 _ (by omega) (by omega)).trans h0)))) rfl rfl ?_
        refine A_V0i (q := 81) X (c_X6_isTooLarge hG hT_64) mX6_isTooLarge kX8_157 dX8_applyTo_78 (by omega) hT_64.cell rfl (by decide) (Nat.le_of_ble_eq_true rfl) rfl (fun vq_68 cq_67 hq_66 => ?_)
        obtain ⟨rfl, hq_66⟩ := hq_66
        obtain rfl := hq_66.symm
        have hrs : Rs (tRange (tRange (tAdd (([], 0) : List Int × Int) 1000) T1.1 0 (T1.1.length)) T9.1 0 (T9.1.length)) (1000 :: (T1.1 ++ T9.1)) := by
          have q0 : Rs (([], 0) : List Int × Int) [] := Or.inl ⟨rfl, rfl⟩
          have q1 := Rs_add 1000 q0 (by decide)
          have q2 := Rs_range (l := T1.1) (i := 0) (j := T1.1.length) q1 (by omega) (by omega)
          have q3 := Rs_range (l := T9.1) (i := 0) (j := T9.1.length) q2 (by omega) (by omega)
          rw [List.drop_zero, List.drop_zero, Nat.sub_zero, Nat.sub_zero, List.take_length, List.take_length] at q3
          simpa using q3
        have hb01 := hT_64.b01
        have hl3 := hT_64.len
        refine A_if_eq (q := 84) (t := 89) X dX8_applyTo_81 (by omega) rfl rfl (fun hb81 => ?_) (fun hb81 => ?_)
        · have e3 := Rs_0 hrs (by omega)
          have el : (1000 :: (T1.1 ++ T9.1)).length ≤ 200 := by rw [e3] at hl3; exact hl3
          have hT3y := hT_64
          rw [e3] at hT3y
          refine A_aload_n (q := 90) X dX8_applyTo_89 rfl rfl ?_
          refine A_V0i (q := 93) X (c_X8_actWithCopy hG hN ((hf_65 _ (by omega) (by omega)).trans ((hf_58 _ (by omega) (by omega)).trans ((hf_51 _ (by omega) (by omega)).trans ((hf_47 _ (by omega) (by omega)).trans h0)))) (hT1.keep ((hf_65 1 (by omega) (by omega)).trans ((hf_58 1 (by omega) (by omega)).trans ((hf_51 1 (by omega) (by omega)).trans ((hf_47 1 (by omega) (by omega)).trans rfl)))) ((hf_65 2 (by omega) (by omega)).trans ((hf_58 2 (by omega) (by omega)).trans ((hf_51 2 (by omega) (by omega)).trans ((hf_47 2 (by omega) (by omega)).trans rfl))))) hgd hT3y (hH.keep (fun k r0 => ((hf_65 k (by omega) (by omega)).trans ((hf_58 k (by omega) (by omega)).trans ((hf_51 k (by omega) (by omega)).trans ((hf_47 k (by omega) (by omega)).trans rfl))))))) mX8_actWithCopy kX8_135 dX8_applyTo_90 (by omega) ((hf_65 _ (by omega) (by omega)).trans ((hf_58 _ (by omega) (by omega)).trans ((hf_51 _ (by omega) (by omega)).trans ((hf_47 _ (by omega) (by omega)).trans h0)))) rfl (by decide) (Nat.le_of_ble_eq_true rfl) rfl (fun vq_71 cq_70 hq_69 => ?_)
          obtain ⟨rfl, hT_72, hH_73, hf_74⟩ := hq_69
          have e9 : fApply k (T1.1, x, hs, T7.1, T9.1, o, sd) = ((((1000 :: (T1.1 ++ T9.1)).length : Nat) : Int), (((1000 :: (T1.1 ++ T9.1), 0) : List Int × Int).1, x, (psh hs T1.1), T7.1, T9.1, o, sd)) := by unfold fApply; rw [es]; dsimp only; rw [if_pos (by omega), if_neg (by omega), if_pos el]; unfold actS; rfl
          exact A_ireturn X dX8_applyTo_93 ⟨by rw [e9], by rw [e9]; exact ⟨hN, ((hf_74 _ (by omega) (by omega) (by omega)).trans ((hf_65 _ (by omega) (by omega)).trans ((hf_58 _ (by omega) (by omega)).trans ((hf_51 _ (by omega) (by omega)).trans ((hf_47 _ (by omega) (by omega)).trans h0))))), ⟨_, hT_72, rfl, rfl⟩, (Gd_appl hgd hgs el), ⟨_, (hT3y.keep ((hf_74 3 (by omega) (by omega) (by omega)).trans rfl) ((hf_74 4 (by omega) (by omega) (by omega)).trans rfl))⟩, ⟨_, (hT5.keep ((hf_74 5 (by omega) (by omega) (by omega)).trans ((hf_65 5 (by omega) (by omega)).trans ((hf_58 5 (by omega) (by omega)).trans ((hf_51 5 (by omega) (by omega)).trans ((hf_47 5 (by omega) (by omega)).trans rfl))))) ((hf_74 6 (by omega) (by omega) (by omega)).trans ((hf_65 6 (by omega) (by omega)).trans ((hf_58 6 (by omega) (by omega)).trans ((hf_51 6 (by omega) (by omega)).trans ((hf_47 6 (by omega) (by omega)).trans rfl))))))⟩, ⟨_, (hT7.keep ((hf_74 7 (by omega) (by omega) (by omega)).trans ((hf_65 7 (by omega) (by omega)).trans ((hf_58 7 (by omega) (by omega)).trans ((hf_51 7 (by omega) (by omega)).trans ((hf_47 7 (by omega) (by omega)).trans rfl))))) ((hf_74 8 (by omega) (by omega) (by omega)).trans ((hf_65 8 (by omega) (by omega)).trans ((hf_58 8 (by omega) (by omega)).trans ((hf_51 8 (by omega) (by omega)).trans ((hf_47 8 (by omega) (by omega)).trans rfl)))))), rfl, z7⟩, hg7, ⟨_, (hT9.keep ((hf_74 9 (by omega) (by omega) (by omega)).trans ((hf_65 9 (by omega) (by omega)).trans ((hf_58 9 (by omega) (by omega)).trans ((hf_51 9 (by omega) (by omega)).trans ((hf_47 9 (by omega) (by omega)).trans rfl))))) ((hf_74 10 (by omega) (by omega) (by omega)).trans ((hf_65 10 (by omega) (by omega)).trans ((hf_58 10 (by omega) (by omega)).trans ((hf_51 10 (by omega) (by omega)).trans ((hf_47 10 (by omega) (by omega)).trans rfl)))))), rfl, z9⟩, hg9, ⟨_, _, _, (hO11.keep ((hf_74 11 (by omega) (by omega) (by omega)).trans ((hf_65 11 (by omega) (by omega)).trans ((hf_58 11 (by omega) (by omega)).trans ((hf_51 11 (by omega) (by omega)).trans ((hf_47 11 (by omega) (by omega)).trans rfl))))) ((hf_74 12 (by omega) (by omega) (by omega)).trans ((hf_65 12 (by omega) (by omega)).trans ((hf_58 12 (by omega) (by omega)).trans ((hf_51 12 (by omega) (by omega)).trans ((hf_47 12 (by omega) (by omega)).trans rfl))))) ((hf_74 13 (by omega) (by omega) (by omega)).trans ((hf_65 13 (by omega) (by omega)).trans ((hf_58 13 (by omega) (by omega)).trans ((hf_51 13 (by omega) (by omega)).trans ((hf_47 13 (by omega) (by omega)).trans rfl))))))⟩, (hRd.keep (fun k r0 r1 => ((hf_74 k (by omega) (by omega) (by omega)).trans ((hf_65 k (by omega) (by omega)).trans ((hf_58 k (by omega) (by omega)).trans ((hf_51 k (by omega) (by omega)).trans ((hf_47 k (by omega) (by omega)).trans rfl))))))), ⟨_, _, _, _, _, (hM.keep (fun k r0 r1 => ((hf_74 k (by omega) (by omega) (by omega)).trans ((hf_65 k (by omega) (by omega)).trans ((hf_58 k (by omega) (by omega)).trans ((hf_51 k (by omega) (by omega)).trans ((hf_47 k (by omega) (by omega)).trans rfl)))))))⟩, hH_73, (hX.keep ((hf_74 36 (by omega) (by omega) (by omega)).trans ((hf_65 36 (by omega) (by omega)).trans ((hf_58 36 (by omega) (by omega)).trans ((hf_51 36 (by omega) (by omega)).trans ((hf_47 36 (by omega) (by omega)).trans rfl))))) ((hf_74 37 (by omega) (by omega) (by omega)).trans ((hf_65 37 (by omega) (by omega)).trans ((hf_58 37 (by omega) (by omega)).trans ((hf_51 37 (by omega) (by omega)).trans ((hf_47 37 (by omega) (by omega)).trans rfl)))))), (hB.keep ((hf_74 38 (by omega) (by omega) (by omega)).trans ((hf_65 38 (by omega) (by omega)).trans ((hf_58 38 (by omega) (by omega)).trans ((hf_51 38 (by omega) (by omega)).trans ((hf_47 38 (by omega) (by omega)).trans rfl))))) ((hf_74 39 (by omega) (by omega) (by omega)).trans ((hf_65 39 (by omega) (by omega)).trans ((hf_58 39 (by omega) (by omega)).trans ((hf_51 39 (by omega) (by omega)).trans ((hf_47 39 (by omega) (by omega)).trans rfl))))) ((hf_74 40 (by omega) (by omega) (by omega)).trans ((hf_65 40 (by omega) (by omega)).trans ((hf_58 40 (by omega) (by omega)).trans ((hf_51 40 (by omega) (by omega)).trans ((hf_47 40 (by omega) (by omega)).trans rfl))))))⟩, (fun k n0 => ((hf_74 k (by omega) (by omega) (by omega)).trans ((hf_65 k (by omega) (by omega)).trans ((hf_58 k (by omega) (by omega)).trans ((hf_51 k (by omega) (by omega)).trans ((hf_47 k (by omega) (by omega)).trans rfl))))))⟩
        · have el := Rs_1 hrs (by omega)
          refine A_bipush (q := 86) X dX8_applyTo_84 (by decide) rfl ?_
          refine A_goto (q := 93) X dX8_applyTo_86 rfl ?_
          have e9 : fApply k (T1.1, x, hs, T7.1, T9.1, o, sd) = (-4, (T1.1, x, hs, T7.1, T9.1, o, sd)) := by unfold fApply; rw [es]; dsimp only; rw [if_pos (by omega), if_neg (by omega), if_neg (by omega)]
          exact A_ireturn X dX8_applyTo_93 ⟨by rw [e9], by rw [e9]; exact ⟨hN, ((hf_65 _ (by omega) (by omega)).trans ((hf_58 _ (by omega) (by omega)).trans ((hf_51 _ (by omega) (by omega)).trans ((hf_47 _ (by omega) (by omega)).trans h0)))), ⟨_, (hT1.keep ((hf_65 1 (by omega) (by omega)).trans ((hf_58 1 (by omega) (by omega)).trans ((hf_51 1 (by omega) (by omega)).trans ((hf_47 1 (by omega) (by omega)).trans rfl)))) ((hf_65 2 (by omega) (by omega)).trans ((hf_58 2 (by omega) (by omega)).trans ((hf_51 2 (by omega) (by omega)).trans ((hf_47 2 (by omega) (by omega)).trans rfl))))), rfl, z1⟩, hgd, ⟨_, hT_64⟩, ⟨_, (hT5.keep ((hf_65 5 (by omega) (by omega)).trans ((hf_58 5 (by omega) (by omega)).trans ((hf_51 5 (by omega) (by omega)).trans ((hf_47 5 (by omega) (by omega)).trans rfl)))) ((hf_65 6 (by omega) (by omega)).trans ((hf_58 6 (by omega) (by omega)).trans ((hf_51 6 (by omega) (by omega)).trans ((hf_47 6 (by omega) (by omega)).trans rfl)))))⟩, ⟨_, (hT7.keep ((hf_65 7 (by omega) (by omega)).trans ((hf_58 7 (by omega) (by omega)).trans ((hf_51 7 (by omega) (by omega)).trans ((hf_47 7 (by omega) (by omega)).trans rfl)))) ((hf_65 8 (by omega) (by omega)).trans ((hf_58 8 (by omega) (by omega)).trans ((hf_51 8 (by omega) (by omega)).trans ((hf_47 8 (by omega) (by omega)).trans rfl))))), rfl, z7⟩, hg7, ⟨_, (hT9.keep ((hf_65 9 (by omega) (by omega)).trans ((hf_58 9 (by omega) (by omega)).trans ((hf_51 9 (by omega) (by omega)).trans ((hf_47 9 (by omega) (by omega)).trans rfl)))) ((hf_65 10 (by omega) (by omega)).trans ((hf_58 10 (by omega) (by omega)).trans ((hf_51 10 (by omega) (by omega)).trans ((hf_47 10 (by omega) (by omega)).trans rfl))))), rfl, z9⟩, hg9, ⟨_, _, _, (hO11.keep ((hf_65 11 (by omega) (by omega)).trans ((hf_58 11 (by omega) (by omega)).trans ((hf_51 11 (by omega) (by omega)).trans ((hf_47 11 (by omega) (by omega)).trans rfl)))) ((hf_65 12 (by omega) (by omega)).trans ((hf_58 12 (by omega) (by omega)).trans ((hf_51 12 (by omega) (by omega)).trans ((hf_47 12 (by omega) (by omega)).trans rfl)))) ((hf_65 13 (by omega) (by omega)).trans ((hf_58 13 (by omega) (by omega)).trans ((hf_51 13 (by omega) (by omega)).trans ((hf_47 13 (by omega) (by omega)).trans rfl)))))⟩, (hRd.keep (fun k r0 r1 => ((hf_65 k (by omega) (by omega)).trans ((hf_58 k (by omega) (by omega)).trans ((hf_51 k (by omega) (by omega)).trans ((hf_47 k (by omega) (by omega)).trans rfl)))))), ⟨_, _, _, _, _, (hM.keep (fun k r0 r1 => ((hf_65 k (by omega) (by omega)).trans ((hf_58 k (by omega) (by omega)).trans ((hf_51 k (by omega) (by omega)).trans ((hf_47 k (by omega) (by omega)).trans rfl))))))⟩, (hH.keep (fun k r0 => ((hf_65 k (by omega) (by omega)).trans ((hf_58 k (by omega) (by omega)).trans ((hf_51 k (by omega) (by omega)).trans ((hf_47 k (by omega) (by omega)).trans rfl)))))), (hX.keep ((hf_65 36 (by omega) (by omega)).trans ((hf_58 36 (by omega) (by omega)).trans ((hf_51 36 (by omega) (by omega)).trans ((hf_47 36 (by omega) (by omega)).trans rfl)))) ((hf_65 37 (by omega) (by omega)).trans ((hf_58 37 (by omega) (by omega)).trans ((hf_51 37 (by omega) (by omega)).trans ((hf_47 37 (by omega) (by omega)).trans rfl))))), (hB.keep ((hf_65 38 (by omega) (by omega)).trans ((hf_58 38 (by omega) (by omega)).trans ((hf_51 38 (by omega) (by omega)).trans ((hf_47 38 (by omega) (by omega)).trans rfl)))) ((hf_65 39 (by omega) (by omega)).trans ((hf_58 39 (by omega) (by omega)).trans ((hf_51 39 (by omega) (by omega)).trans ((hf_47 39 (by omega) (by omega)).trans rfl)))) ((hf_65 40 (by omega) (by omega)).trans ((hf_58 40 (by omega) (by omega)).trans ((hf_51 40 (by omega) (by omega)).trans ((hf_47 40 (by omega) (by omega)).trans rfl)))))⟩, (fun k n0 => ((hf_65 k (by omega) (by omega)).trans ((hf_58 k (by omega) (by omega)).trans ((hf_51 k (by omega) (by omega)).trans ((hf_47 k (by omega) (by omega)).trans rfl)))))⟩
      · refine A_bipush (q := 24) X dX8_applyTo_22 (by decide) rfl ?_
        have e9 : fApply k (T1.1, x, hs, T7.1, T9.1, o, sd) = (-3, (T1.1, x, hs, T7.1, T9.1, o, sd)) := by unfold fApply; rw [es]; dsimp only; repeat (first | rw [if_pos (by omega)] | rw [if_neg (by omega)])
        exact A_ireturn X dX8_applyTo_24 ⟨by rw [e9], by rw [e9]; exact ⟨hN, h0, ⟨_, hT1, rfl, z1⟩, hgd, ⟨_, hT3⟩, ⟨_, hT5⟩, ⟨_, hT7, rfl, z7⟩, hg7, ⟨_, hT9, rfl, z9⟩, hg9, ⟨_, _, _, hO11⟩, hRd, ⟨_, _, _, _, _, hM⟩, hH, hX, hB⟩, (fun k n0 => rfl)⟩
  · refine A_iconst (q := 8) X dX8_applyTo_7 rfl ?_
    have e9 : fApply k (T1.1, x, hs, T7.1, T9.1, o, sd) = (-1, (T1.1, x, hs, T7.1, T9.1, o, sd)) := by unfold fApply; dsimp only; rw [if_neg (by omega)]
    exact A_ireturn X dX8_applyTo_8 ⟨by rw [e9], by rw [e9]; exact ⟨hN, h0, ⟨_, hT1, rfl, z1⟩, hgd, ⟨_, hT3⟩, ⟨_, hT5⟩, ⟨_, hT7, rfl, z7⟩, hg7, ⟨_, hT9, rfl, z9⟩, hg9, ⟨_, _, _, hO11⟩, hRd, ⟨_, _, _, _, _, hM⟩, hH, hX, hB⟩, (fun k n0 => rfl)⟩
