/-! THE CLASS: substitute, undo, predictions, normal forms, the machine, slots, the seed -/
set_option maxRecDepth 100000 in
set_option maxHeartbeats 4000000 in
theorem c_X8_substitute {l : Launch} {G : Gm} {c : HP} {tm x : List Int} {hs : List (List Int)} {s0 s1 : List Int} {o : List (Int × Int)} {sd : Int64} {j k : Int} (hG : injG G) (hjr : rg j) (hkr : rg k) (hW : WX G c (tm, x, hs, s0, s1, o, sd)) : AMet l G yX8_substitute cX8_substitute 4 ((some .int)) (rmR 4 108) [.ref (G.1 0), .int (zI j), .int (zI k)] c (Qi (fun v c' => v = zI (fSubst j k (tm, x, hs, s0, s1, o, sd)).1 ∧ WX G c' (fSubst j k (tm, x, hs, s0, s1, o, sd)).2 ∧ (∀ k, 55 ≤ k → c' k = c k))) := by
  refine AMet.of (vl := [some (.ref (G.1 0)), some (.int (zI j)), some (.int (zI k))]) (by decide) hG (Nat.le_of_ble_eq_true rfl) rfl ?_
  intro K X
  have X : Fx l G K cX8_substitute 4 RX8 ((some .int)) (rmR 4 108) := X
  have hW0 := hW
  obtain ⟨hN, h0, ⟨T1, hT1, eT1, z1⟩, hgd, ⟨T3, hT3⟩, ⟨T5, hT5⟩, ⟨T7, hT7, eT7, z7⟩, hg7, ⟨T9, hT9, eT9, z9⟩, hg9, ⟨n11, E11, D11, hO11⟩, hRd, ⟨P0, Q0, X0, ap0, pk0, hM⟩, hH, hX, hB⟩ := hW
  dsimp only at h0 eT1 hgd eT7 hg7 eT9 hg9 hH hX hB
  subst eT1 eT7 eT9
  obtain ⟨p33, h33⟩ := hH.cell
  have hl1 := hT1.len
  have hl7 := hT7.len
  have hl9 := hT9.len
  have hxl := hX.2.1
  refine A_iload_n (q := 1) X dX8_substitute_0 rfl rfl ?_
  refine A_S1i (q := 4) X (c_X8_isSlot hG (by omega)) mX8_isSlot kX8_146 dX8_substitute_1 (by decide) (Nat.le_of_ble_eq_true rfl) rfl (fun vq_3 cq_2 hq_1 => ?_)
  obtain ⟨rfl, hq_1⟩ := hq_1
  obtain rfl := hq_1.symm
  refine A_bne (q := 7) (t := 9) X dX8_substitute_4 rfl rfl (fun hb4 => ?_) (fun hb4 => ?_)
  · refine A_iload_n (q := 10) X dX8_substitute_9 rfl rfl ?_
    refine A_if_lt (q := 13) (t := 19) X dX8_substitute_10 (by omega) rfl rfl (fun hb10 => ?_) (fun hb10 => ?_)
    · refine A_bipush (q := 21) X dX8_substitute_19 (by decide) rfl ?_
      have e9 : fSubst j k (T1.1, x, hs, T7.1, T9.1, o, sd) = (-2, (T1.1, x, hs, T7.1, T9.1, o, sd)) := by unfold fSubst; dsimp only; rw [if_pos (by omega), if_neg (by omega)]
      exact A_ireturn X dX8_substitute_21 ⟨by rw [e9], by rw [e9]; exact ⟨hN, h0, ⟨_, hT1, rfl, z1⟩, hgd, ⟨_, hT3⟩, ⟨_, hT5⟩, ⟨_, hT7, rfl, z7⟩, hg7, ⟨_, hT9, rfl, z9⟩, hg9, ⟨_, _, _, hO11⟩, hRd, ⟨_, _, _, _, _, hM⟩, hH, hX, hB⟩, (fun k n0 => rfl)⟩
    · refine A_iload_n (q := 14) X dX8_substitute_13 rfl rfl ?_
      refine A_bipush (q := 16) X dX8_substitute_14 (by decide) rfl ?_
      refine A_icmp_le (q := 19) (t := 22) X dX8_substitute_16 (by omega) (by decide) rfl rfl (fun hb16 => ?_) (fun hb16 => ?_)
      · refine A_aload_n (q := 23) X dX8_substitute_22 rfl rfl ?_
        refine A_iload_n (q := 24) X dX8_substitute_23 rfl rfl ?_
        refine A_V1r (q := 27) X (c_X8_slotTerm hG (by omega) hW0) mX8_slotTerm kX8_149 dX8_substitute_24 (by omega) h0 rfl (by decide) (Nat.le_of_ble_eq_true rfl) rfl (fun vq_6 cq_5 hq_4 => ?_)
        obtain ⟨hqs, hq_4⟩ := hq_4
        obtain rfl := hq_4.symm
        by_cases hk0 : k = 0
        · rw [if_pos hk0] at hqs
          subst hqs
          have es : sltS (T1.1, x, hs, T7.1, T9.1, o, sd) k = T7.1 := by unfold sltS; rw [if_pos hk0]
          refine A_astore_n (q := 28) X dX8_substitute_27 (by decide) (okP_s rfl rfl) rfl ?_
          refine A_aload_n (q := 29) X dX8_substitute_28 rfl rfl ?_
          refine A_V0i (q := 32) X (c_X6_length hG hT7) mX6_length kX8_100 dX8_substitute_29 (by omega) hT7.cell rfl (by decide) (Nat.le_of_ble_eq_true rfl) rfl (fun vq_9 cq_8 hq_7 => ?_)
          obtain ⟨rfl, hq_7⟩ := hq_7
          obtain rfl := hq_7.symm
          refine A_if_ne (q := 35) (t := 38) X dX8_substitute_32 (by omega) rfl rfl (fun hb32 => ?_) (fun hb32 => ?_)
          · have hgs : Gd T7.1 := by rcases hg7 with h | h; (exact absurd (by rw [h]; rfl) (show ¬ T7.1.length = 0 by omega)); exact h
            refine A_aload_n (q := 39) X dX8_substitute_38 rfl rfl ?_
            refine A_getf (q := 42) X fX8_16 dX8_substitute_39 (by omega) h0 rfl rfl ?_
            refine A_aload_n (q := 43) X dX8_substitute_42 rfl rfl ?_
            refine A_getf (q := 46) X fX8_10 dX8_substitute_43 (by omega) h0 rfl rfl ?_
            refine A_V1v (q := 49) X (c_X6_copyFrom hG hT3 hT1 (by omega) (by omega) (by omega) (by omega)) mX6_copyFrom kX8_128 dX8_substitute_46 (by omega) hT3.cell rfl (by decide) (Nat.le_of_ble_eq_true rfl) rfl (fun cq_11 hq_10 => ?_)
            obtain ⟨hT_12, hf_13⟩ := hq_10
            refine A_aload_n (q := 50) X dX8_substitute_49 rfl rfl ?_
            refine A_getf (q := 53) X fX8_38 dX8_substitute_50 (by omega) ((hf_13 _ (by omega) (by omega)).trans h0) rfl rfl ?_
            refine A_aload_n (q := 54) X dX8_substitute_53 rfl rfl ?_
            refine A_getf (q := 57) X fX8_16 dX8_substitute_54 (by omega) ((hf_13 _ (by omega) (by omega)).trans h0) rfl rfl ?_
            refine A_iload_n (q := 58) X dX8_substitute_57 rfl rfl ?_
            refine A_aload_n (q := 59) X dX8_substitute_58 rfl rfl ?_
            refine A_V3i (q := 62) X (c_X5_replaceFree hG hN (hRd.keep (fun k r0 r1 => ((hf_13 k (by omega) (by omega)).trans rfl))) hT_12 z1 hgd (hT7.keep ((hf_13 7 (by omega) (by omega)).trans rfl) ((hf_13 8 (by omega) (by omega)).trans rfl)) hgs (by omega) (by omega) (by omega) (by omega) (by omega) (by omega) (by omega) (by omega) (by omega)) mX5_replaceFree kX8_160 dX8_substitute_59 (by omega) (hRd.keep (fun k r0 r1 => ((hf_13 k (by omega) (by omega)).trans rfl))).1 rfl (by decide) (Nat.le_of_ble_eq_true rfl) rfl (fun vq_16 cq_15 hq_14 => ?_)
            obtain ⟨rfl, hT_17, hRd_18, hf_19⟩ := hq_14
            refine A_beq (q := 65) (t := 72) X dX8_substitute_62 rfl rfl (fun hb62 => ?_) (fun hb62 => ?_)
            · refine A_bipush (q := 74) X dX8_substitute_72 (by decide) rfl ?_
              have e9 : fSubst j k (T1.1, x, hs, T7.1, T9.1, o, sd) = (-4, (T1.1, x, hs, T7.1, T9.1, o, sd)) := by unfold fSubst; rw [es]; dsimp only; rw [if_pos (by omega), if_pos (by omega), if_neg (by omega), if_neg hb62]
              exact A_ireturn X dX8_substitute_74 ⟨by rw [e9], by rw [e9]; exact ⟨hN, ((hf_19 _ (by omega) (by omega) (by omega)).trans ((hf_13 _ (by omega) (by omega)).trans h0)), ⟨_, (hT1.keep ((hf_19 1 (by omega) (by omega) (by omega)).trans ((hf_13 1 (by omega) (by omega)).trans rfl)) ((hf_19 2 (by omega) (by omega) (by omega)).trans ((hf_13 2 (by omega) (by omega)).trans rfl))), rfl, z1⟩, hgd, ⟨_, hT_17⟩, ⟨_, (hT5.keep ((hf_19 5 (by omega) (by omega) (by omega)).trans ((hf_13 5 (by omega) (by omega)).trans rfl)) ((hf_19 6 (by omega) (by omega) (by omega)).trans ((hf_13 6 (by omega) (by omega)).trans rfl)))⟩, ⟨_, (hT7.keep ((hf_19 7 (by omega) (by omega) (by omega)).trans ((hf_13 7 (by omega) (by omega)).trans rfl)) ((hf_19 8 (by omega) (by omega) (by omega)).trans ((hf_13 8 (by omega) (by omega)).trans rfl))), rfl, z7⟩, hg7, ⟨_, (hT9.keep ((hf_19 9 (by omega) (by omega) (by omega)).trans ((hf_13 9 (by omega) (by omega)).trans rfl)) ((hf_19 10 (by omega) (by omega) (by omega)).trans ((hf_13 10 (by omega) (by omega)).trans rfl))), rfl, z9⟩, hg9, ⟨_, _, _, (hO11.keep ((hf_19 11 (by omega) (by omega) (by omega)).trans ((hf_13 11 (by omega) (by omega)).trans rfl)) ((hf_19 12 (by omega) (by omega) (by omega)).trans ((hf_13 12 (by omega) (by omega)).trans rfl)) ((hf_19 13 (by omega) (by omega) (by omega)).trans ((hf_13 13 (by omega) (by omega)).trans rfl)))⟩, hRd_18, ⟨_, _, _, _, _, (hM.keep (fun k r0 r1 => ((hf_19 k (by omega) (by omega) (by omega)).trans ((hf_13 k (by omega) (by omega)).trans rfl))))⟩, (hH.keep (fun k r0 => ((hf_19 k (by omega) (by omega) (by omega)).trans ((hf_13 k (by omega) (by omega)).trans rfl)))), (hX.keep ((hf_19 36 (by omega) (by omega) (by omega)).trans ((hf_13 36 (by omega) (by omega)).trans rfl)) ((hf_19 37 (by omega) (by omega) (by omega)).trans ((hf_13 37 (by omega) (by omega)).trans rfl))), (hB.keep ((hf_19 38 (by omega) (by omega) (by omega)).trans ((hf_13 38 (by omega) (by omega)).trans rfl)) ((hf_19 39 (by omega) (by omega) (by omega)).trans ((hf_13 39 (by omega) (by omega)).trans rfl)) ((hf_19 40 (by omega) (by omega) (by omega)).trans ((hf_13 40 (by omega) (by omega)).trans rfl)))⟩, (fun k n0 => ((hf_19 k (by omega) (by omega) (by omega)).trans ((hf_13 k (by omega) (by omega)).trans rfl)))⟩
            · have hT3y := hT_17
              rw [if_pos hb62] at hT3y
              refine A_aload_n (q := 66) X dX8_substitute_65 rfl rfl ?_
              refine A_V0i (q := 69) X (c_X8_actWithCopy hG hN ((hf_19 _ (by omega) (by omega) (by omega)).trans ((hf_13 _ (by omega) (by omega)).trans h0)) (hT1.keep ((hf_19 1 (by omega) (by omega) (by omega)).trans ((hf_13 1 (by omega) (by omega)).trans rfl)) ((hf_19 2 (by omega) (by omega) (by omega)).trans ((hf_13 2 (by omega) (by omega)).trans rfl))) hgd hT3y (hH.keep (fun k r0 => ((hf_19 k (by omega) (by omega) (by omega)).trans ((hf_13 k (by omega) (by omega)).trans rfl))))) mX8_actWithCopy kX8_135 dX8_substitute_66 (by omega) ((hf_19 _ (by omega) (by omega) (by omega)).trans ((hf_13 _ (by omega) (by omega)).trans h0)) rfl (by decide) (Nat.le_of_ble_eq_true rfl) rfl (fun vq_22 cq_21 hq_20 => ?_)
              obtain ⟨rfl, hT_23, hH_24, hf_25⟩ := hq_20
              refine A_goto (q := 74) X dX8_substitute_69 rfl ?_
              have e9 : fSubst j k (T1.1, x, hs, T7.1, T9.1, o, sd) = ((((rp T1.1 [0] j T7.1).length : Nat) : Int), (((rp T1.1 [0] j T7.1, 0) : List Int × Int).1, x, (psh hs T1.1), T7.1, T9.1, o, sd)) := by unfold fSubst; rw [es]; dsimp only; rw [if_pos (by omega), if_pos (by omega), if_neg (by omega), if_pos hb62]; unfold actS; rfl
              exact A_ireturn X dX8_substitute_74 ⟨by rw [e9], by rw [e9]; exact ⟨hN, ((hf_25 _ (by omega) (by omega) (by omega)).trans ((hf_19 _ (by omega) (by omega) (by omega)).trans ((hf_13 _ (by omega) (by omega)).trans h0))), ⟨_, hT_23, rfl, rfl⟩, (Gd_rp hgd hgs (by omega) hb62), ⟨_, (hT3y.keep ((hf_25 3 (by omega) (by omega) (by omega)).trans rfl) ((hf_25 4 (by omega) (by omega) (by omega)).trans rfl))⟩, ⟨_, (hT5.keep ((hf_25 5 (by omega) (by omega) (by omega)).trans ((hf_19 5 (by omega) (by omega) (by omega)).trans ((hf_13 5 (by omega) (by omega)).trans rfl))) ((hf_25 6 (by omega) (by omega) (by omega)).trans ((hf_19 6 (by omega) (by omega) (by omega)).trans ((hf_13 6 (by omega) (by omega)).trans rfl))))⟩, ⟨_, (hT7.keep ((hf_25 7 (by omega) (by omega) (by omega)).trans ((hf_19 7 (by omega) (by omega) (by omega)).trans ((hf_13 7 (by omega) (by omega)).trans rfl))) ((hf_25 8 (by omega) (by omega) (by omega)).trans ((hf_19 8 (by omega) (by omega) (by omega)).trans ((hf_13 8 (by omega) (by omega)).trans rfl)))), rfl, z7⟩, hg7, ⟨_, (hT9.keep ((hf_25 9 (by omega) (by omega) (by omega)).trans ((hf_19 9 (by omega) (by omega) (by omega)).trans ((hf_13 9 (by omega) (by omega)).trans rfl))) ((hf_25 10 (by omega) (by omega) (by omega)).trans ((hf_19 10 (by omega) (by omega) (by omega)).trans ((hf_13 10 (by omega) (by omega)).trans rfl)))), rfl, z9⟩, hg9, ⟨_, _, _, (hO11.keep ((hf_25 11 (by omega) (by omega) (by omega)).trans ((hf_19 11 (by omega) (by omega) (by omega)).trans ((hf_13 11 (by omega) (by omega)).trans rfl))) ((hf_25 12 (by omega) (by omega) (by omega)).trans ((hf_19 12 (by omega) (by omega) (by omega)).trans ((hf_13 12 (by omega) (by omega)).trans rfl))) ((hf_25 13 (by omega) (by omega) (by omega)).trans ((hf_19 13 (by omega) (by omega) (by omega)).trans ((hf_13 13 (by omega) (by omega)).trans rfl))))⟩, (hRd_18.keep (fun k r0 r1 => ((hf_25 k (by omega) (by omega) (by omega)).trans rfl))), ⟨_, _, _, _, _, (hM.keep (fun k r0 r1 => ((hf_25 k (by omega) (by omega) (by omega)).trans ((hf_19 k (by omega) (by omega) (by omega)).trans ((hf_13 k (by omega) (by omega)).trans rfl)))))⟩, hH_24, (hX.keep ((hf_25 36 (by omega) (by omega) (by omega)).trans ((hf_19 36 (by omega) (by omega) (by omega)).trans ((hf_13 36 (by omega) (by omega)).trans rfl))) ((hf_25 37 (by omega) (by omega) (by omega)).trans ((hf_19 37 (by omega) (by omega) (by omega)).trans ((hf_13 37 (by omega) (by omega)).trans rfl)))), (hB.keep ((hf_25 38 (by omega) (by omega) (by omega)).trans ((hf_19 38 (by omega) (by omega) (by omega)).trans ((hf_13 38 (by omega) (by omega)).trans rfl))) ((hf_25 39 (by omega) (by omega) (by omega)).trans ((hf_19 39 (by omega) (by omega) (by omega)).trans ((hf_13 39 (by omega) (by omega)).trans rfl))) ((hf_25 40 (by omega) (by omega) (by omega)).trans ((hf_19 40 (by omega) (by omega) (by omega)).trans ((hf_13 40 (by omega) (by omega)).trans rfl))))⟩, (fun k n0 => ((hf_25 k (by omega) (by omega) (by omega)).trans ((hf_19 k (by omega) (by omega) (by omega)).trans ((hf_13 k (by omega) (by omega)).trans rfl))))⟩
          · refine A_bipush (q := 37) X dX8_substitute_35 (by decide) rfl ?_
            have e9 : fSubst j k (T1.1, x, hs, T7.1, T9.1, o, sd) = (-3, (T1.1, x, hs, T7.1, T9.1, o, sd)) := by unfold fSubst; rw [es]; dsimp only; rw [if_pos (by omega), if_pos (by omega), if_pos (by omega)]
            exact A_ireturn X dX8_substitute_37 ⟨by rw [e9], by rw [e9]; exact ⟨hN, h0, ⟨_, hT1, rfl, z1⟩, hgd, ⟨_, hT3⟩, ⟨_, hT5⟩, ⟨_, hT7, rfl, z7⟩, hg7, ⟨_, hT9, rfl, z9⟩, hg9, ⟨_, _, _, hO11⟩, hRd, ⟨_, _, _, _, _, hM⟩, hH, hX, hB⟩, (fun k n0 => rfl)⟩
        · rw [if_neg hk0] at hqs
          subst hqs
          have es : sltS (T1.1, x, hs, T7.1, T9.1, o, sd) k = T9.1 := by unfold sltS; rw [if_neg hk0]
          refine A_astore_n (q := 28) X dX8_substitute_27 (by decide) (okP_s rfl rfl) rfl ?_
          refine A_aload_n (q := 29) X dX8_substitute_28 rfl rfl ?_
          refine A_V0i (q := 32) X (c_X6_length hG hT9) mX6_length kX8_100 dX8_substitute_29 (by omega) hT9.cell rfl (by decide) (Nat.le_of_ble_eq_true rfl) rfl (fun vq_28 cq_27 hq_26 => ?_)
          obtain ⟨rfl, hq_26⟩ := hq_26
          obtain rfl := hq_26.symm
          refine A_if_ne (q := 35) (t := 38) X dX8_substitute_32 (by omega) rfl rfl (fun hb32 => ?_) (fun hb32 => ?_)
          · have hgs : Gd T9.1 := by rcases hg9 with h | h; (exact absurd (by rw [h]; rfl) (show ¬ T9.1.length = 0 by omega)); exact h
            refine A_aload_n (q := 39) X dX8_substitute_38 rfl rfl ?_
            refine A_getf (q := 42) X fX8_16 dX8_substitute_39 (by omega) h0 rfl rfl ?_
            refine A_aload_n (q := 43) X dX8_substitute_42 rfl rfl ?_
            refine A_getf (q := 46) X fX8_10 dX8_substitute_43 (by omega) h0 rfl rfl ?_
            refine A_V1v (q := 49) X (c_X6_copyFrom hG hT3 hT1 (by omega) (by omega) (by omega) (by omega)) mX6_copyFrom kX8_128 dX8_substitute_46 (by omega) hT3.cell rfl (by decide) (Nat.le_of_ble_eq_true rfl) rfl (fun cq_30 hq_29 => ?_)
            obtain ⟨hT_31, hf_32⟩ := hq_29
            refine A_aload_n (q := 50) X dX8_substitute_49 rfl rfl ?_
            refine A_getf (q := 53) X fX8_38 dX8_substitute_50 (by omega) ((hf_32 _ (by omega) (by omega)).trans h0) rfl rfl ?_
            refine A_aload_n (q := 54) X dX8_substitute_53 rfl rfl ?_
            refine A_getf (q := 57) X fX8_16 dX8_substitute_54 (by omega) ((hf_32 _ (by omega) (by omega)).trans h0) rfl rfl ?_
            refine A_iload_n (q := 58) X dX8_substitute_57 rfl rfl ?_
            refine A_aload_n (q := 59) X dX8_substitute_58 rfl rfl ?_
            refine A_V3i (q := 62) X (c_X5_replaceFree hG hN (hRd.keep (fun k r0 r1 => ((hf_32 k (by omega) (by omega)).trans rfl))) hT_31 z1 hgd (hT9.keep ((hf_32 9 (by omega) (by omega)).trans rfl) ((hf_32 10 (by omega) (by omega)).trans rfl)) hgs (by omega) (by omega) (by omega) (by omega) (by omega) (by omega) (by omega) (by omega) (by omega)) mX5_replaceFree kX8_160 dX8_substitute_59 (by omega) (hRd.keep (fun k r0 r1 => ((hf_32 k (by omega) (by omega)).trans rfl))).1 rfl (by decide) (Nat.le_of_ble_eq_true rfl) rfl (fun vq_35 cq_34 hq_33 => ?_)
            obtain ⟨rfl, hT_36, hRd_37, hf_38⟩ := hq_33
            refine A_beq (q := 65) (t := 72) X dX8_substitute_62 rfl rfl (fun hb62 => ?_) (fun hb62 => ?_)
            · refine A_bipush (q := 74) X dX8_substitute_72 (by decide) rfl ?_
              have e9 : fSubst j k (T1.1, x, hs, T7.1, T9.1, o, sd) = (-4, (T1.1, x, hs, T7.1, T9.1, o, sd)) := by unfold fSubst; rw [es]; dsimp only; rw [if_pos (by omega), if_pos (by omega), if_neg (by omega), if_neg hb62]
              exact A_ireturn X dX8_substitute_74 ⟨by rw [e9], by rw [e9]; exact ⟨hN, ((hf_38 _ (by omega) (by omega) (by omega)).trans ((hf_32 _ (by omega) (by omega)).trans h0)), ⟨_, (hT1.keep ((hf_38 1 (by omega) (by omega) (by omega)).trans ((hf_32 1 (by omega) (by omega)).trans rfl)) ((hf_38 2 (by omega) (by omega) (by omega)).trans ((hf_32 2 (by omega) (by omega)).trans rfl))), rfl, z1⟩, hgd, ⟨_, hT_36⟩, ⟨_, (hT5.keep ((hf_38 5 (by omega) (by omega) (by omega)).trans ((hf_32 5 (by omega) (by omega)).trans rfl)) ((hf_38 6 (by omega) (by omega) (by omega)).trans ((hf_32 6 (by omega) (by omega)).trans rfl)))⟩, ⟨_, (hT7.keep ((hf_38 7 (by omega) (by omega) (by omega)).trans ((hf_32 7 (by omega) (by omega)).trans rfl)) ((hf_38 8 (by omega) (by omega) (by omega)).trans ((hf_32 8 (by omega) (by omega)).trans rfl))), rfl, z7⟩, hg7, ⟨_, (hT9.keep ((hf_38 9 (by omega) (by omega) (by omega)).trans ((hf_32 9 (by omega) (by omega)).trans rfl)) ((hf_38 10 (by omega) (by omega) (by omega)).trans ((hf_32 10 (by omega) (by omega)).trans rfl))), rfl, z9⟩, hg9, ⟨_, _, _, (hO11.keep ((hf_38 11 (by omega) (by omega) (by omega)).trans ((hf_32 11 (by omega) (by omega)).trans rfl)) ((hf_38 12 (by omega) (by omega) (by omega)).trans ((hf_32 12 (by omega) (by omega)).trans rfl)) ((hf_38 13 (by omega) (by omega) (by omega)).trans ((hf_32 13 (by omega) (by omega)).trans rfl)))⟩, hRd_37, ⟨_, _, _, _, _, (hM.keep (fun k r0 r1 => ((hf_38 k (by omega) (by omega) (by omega)).trans ((hf_32 k (by omega) (by omega)).trans rfl))))⟩, (hH.keep (fun k r0 => ((hf_38 k (by omega) (by omega) (by omega)).trans ((hf_32 k (by omega) (by omega)).trans rfl)))), (hX.keep ((hf_38 36 (by omega) (by omega) (by omega)).trans ((hf_32 36 (by omega) (by omega)).trans rfl)) ((hf_38 37 (by omega) (by omega) (by omega)).trans ((hf_32 37 (by omega) (by omega)).trans rfl))), (hB.keep ((hf_38 38 (by omega) (by omega) (by omega)).trans ((hf_32 38 (by omega) (by omega)).trans rfl)) ((hf_38 39 (by omega) (by omega) (by omega)).trans ((hf_32 39 (by omega) (by omega)).trans rfl)) ((hf_38 40 (by omega) (by omega) (by omega)).trans ((hf_32 40 (by omega) (by omega)).trans rfl)))⟩, (fun k n0 => ((hf_38 k (by omega) (by omega) (by omega)).trans ((hf_32 k (by omega) (by omega)).trans rfl)))⟩
            · have hT3y := hT_36
              rw [if_pos hb62] at hT3y
              refine A_aload_n (q := 66) X dX8_substitute_65 rfl rfl ?_
              refine A_V0i (q := 69) X (c_X8_actWithCopy hG hN ((hf_38 _ (by omega) (by omega) (by omega)).trans ((hf_32 _ (by omega) (by omega)).trans h0)) (hT1.keep ((hf_38 1 (by omega) (by omega) (by omega)).trans ((hf_32 1 (by omega) (by omega)).trans rfl)) ((hf_38 2 (by omega) (by omega) (by omega)).trans ((hf_32 2 (by omega) (by omega)).trans rfl))) hgd hT3y (hH.keep (fun k r0 => ((hf_38 k (by omega) (by omega) (by omega)).trans ((hf_32 k (by omega) (by omega)).trans rfl))))) mX8_actWithCopy kX8_135 dX8_substitute_66 (by omega) ((hf_38 _ (by omega) (by omega) (by omega)).trans ((hf_32 _ (by omega) (by omega)).trans h0)) rfl (by decide) (Nat.le_of_ble_eq_true rfl) rfl (fun vq_41 cq_40 hq_39 => ?_)
              obtain ⟨rfl, hT_42, hH_43, hf_44⟩ := hq_39
              refine A_goto (q := 74) X dX8_substitute_69 rfl ?_
              have e9 : fSubst j k (T1.1, x, hs, T7.1, T9.1, o, sd) = ((((rp T1.1 [0] j T9.1).length : Nat) : Int), (((rp T1.1 [0] j T9.1, 0) : List Int × Int).1, x, (psh hs T1.1), T7.1, T9.1, o, sd)) := by unfold fSubst; rw [es]; dsimp only; rw [if_pos (by omega), if_pos (by omega), if_neg (by omega), if_pos hb62]; unfold actS; rfl
              exact A_ireturn X dX8_substitute_74 ⟨by rw [e9], by rw [e9]; exact ⟨hN, ((hf_44 _ (by omega) (by omega) (by omega)).trans ((hf_38 _ (by omega) (by omega) (by omega)).trans ((hf_32 _ (by omega) (by omega)).trans h0))), ⟨_, hT_42, rfl, rfl⟩, (Gd_rp hgd hgs (by omega) hb62), ⟨_, (hT3y.keep ((hf_44 3 (by omega) (by omega) (by omega)).trans rfl) ((hf_44 4 (by omega) (by omega) (by omega)).trans rfl))⟩, ⟨_, (hT5.keep ((hf_44 5 (by omega) (by omega) (by omega)).trans ((hf_38 5 (by omega) (by omega) (by omega)).trans ((hf_32 5 (by omega) (by omega)).trans rfl))) ((hf_44 6 (by omega) (by omega) (by omega)).trans ((hf_38 6 (by omega) (by omega) (by omega)).trans ((hf_32 6 (by omega) (by omega)).trans rfl))))⟩, ⟨_, (hT7.keep ((hf_44 7 (by omega) (by omega) (by omega)).trans ((hf_38 7 (by omega) (by omega) (by omega)).trans ((hf_32 7 (by omega) (by omega)).trans rfl))) ((hf_44 8 (by omega) (by omega) (by omega)).trans ((hf_38 8 (by omega) (by omega) (by omega)).trans ((hf_32 8 (by omega) (by omega)).trans rfl)))), rfl, z7⟩, hg7, ⟨_, (hT9.keep ((hf_44 9 (by omega) (by omega) (by omega)).trans ((hf_38 9 (by omega) (by omega) (by omega)).trans ((hf_32 9 (by omega) (by omega)).trans rfl))) ((hf_44 10 (by omega) (by omega) (by omega)).trans ((hf_38 10 (by omega) (by omega) (by omega)).trans ((hf_32 10 (by omega) (by omega)).trans rfl)))), rfl, z9⟩, hg9, ⟨_, _, _, (hO11.keep ((hf_44 11 (by omega) (by omega) (by omega)).trans ((hf_38 11 (by omega) (by omega) (by omega)).trans ((hf_32 11 (by omega) (by omega)).trans rfl))) ((hf_44 12 (by omega) (by omega) (by omega)).trans ((hf_38 12 (by omega) (by omega) (by omega)).trans ((hf_32 12 (by omega) (by omega)).trans rfl))) ((hf_44 13 (by omega) (by omega) (by omega)).trans ((hf_38 13 (by omega) (by omega) (by omega)).trans ((hf_32 13 (by omega) (by omega)).trans rfl))))⟩, (hRd_37.keep (fun k r0 r1 => ((hf_44 k (by omega) (by omega) (by omega)).trans rfl))), ⟨_, _, _, _, _, (hM.keep (fun k r0 r1 => ((hf_44 k (by omega) (by omega) (by omega)).trans ((hf_38 k (by omega) (by omega) (by omega)).trans ((hf_32 k (by omega) (by omega)).trans rfl)))))⟩, hH_43, (hX.keep ((hf_44 36 (by omega) (by omega) (by omega)).trans ((hf_38 36 (by omega) (by omega) (by omega)).trans ((hf_32 36 (by omega) (by omega)).trans rfl))) ((hf_44 37 (by omega) (by omega) (by omega)).trans ((hf_38 37 (by omega) (by omega) (by omega)).trans ((hf_32 37 (by omega) (by omega)).trans rfl)))), (hB.keep ((hf_44 38 (by omega) (by omega) (by omega)).trans ((hf_38 38 (by omega) (by omega) (by omega)).trans ((hf_32 38 (by omega) (by omega)).trans rfl))) ((hf_44 39 (by omega) (by omega) (by omega)).trans ((hf_38 39 (by omega) (by omega) (by omega)).trans ((hf_32 39 (by omega) (by omega)).trans rfl))) ((hf_44 40 (by omega) (by omega) (by omega)).trans ((hf_38 40 (by omega) (by omega) (by omega)).trans ((hf_32 40 (by omega) (by omega)).trans rfl))))⟩, (fun k n0 => ((hf_44 k (by omega) (by omega) (by omega)).trans ((hf_38 k (by omega) (by omega) (by omega)).trans ((hf_32 k (by omega) (by omega)).trans rfl))))⟩
          · refine A_bipush (q := 37) X dX8_substitute_35 (by decide) rfl ?_
            have e9 : fSubst j k (T1.1, x, hs, T7.1, T9.1, o, sd) = (-3, (T1.1, x, hs, T7.1, T9.1, o, sd)) := by unfold fSubst; rw [es]; dsimp only; rw [if_pos (by omega), if_pos (by omega), if_pos (by omega)]
            exact A_ireturn X dX8_substitute_37 ⟨by rw [e9], by rw [e9]; exact ⟨hN, h0, ⟨_, hT1, rfl, z1⟩, hgd, ⟨_, hT3⟩, ⟨_, hT5⟩, ⟨_, hT7, rfl, z7⟩, hg7, ⟨_, hT9, rfl, z9⟩, hg9, ⟨_, _, _, hO11⟩, hRd, ⟨_, _, _, _, _, hM⟩, hH, hX, hB⟩, (fun k n0 => rfl)⟩
      · refine A_bipush (q := 21) X dX8_substitute_19 (by decide) rfl ?_
        have e9 : fSubst j k (T1.1, x, hs, T7.1, T9.1, o, sd) = (-2, (T1.1, x, hs, T7.1, T9.1, o, sd)) := by unfold fSubst; dsimp only; rw [if_pos (by omega), if_neg (by omega)]
        exact A_ireturn X dX8_substitute_21 ⟨by rw [e9], by rw [e9]; exact ⟨hN, h0, ⟨_, hT1, rfl, z1⟩, hgd, ⟨_, hT3⟩, ⟨_, hT5⟩, ⟨_, hT7, rfl, z7⟩, hg7, ⟨_, hT9, rfl, z9⟩, hg9, ⟨_, _, _, hO11⟩, hRd, ⟨_, _, _, _, _, hM⟩, hH, hX, hB⟩, (fun k n0 => rfl)⟩
  · refine A_iconst (q := 8) X dX8_substitute_7 rfl ?_
    have e9 : fSubst j k (T1.1, x, hs, T7.1, T9.1, o, sd) = (-1, (T1.1, x, hs, T7.1, T9.1, o, sd)) := by unfold fSubst; dsimp only; rw [if_neg (by omega)]
    exact A_ireturn X dX8_substitute_8 ⟨by rw [e9], by rw [e9]; exact ⟨hN, h0, ⟨_, hT1, rfl, z1⟩, hgd, ⟨_, hT3⟩, ⟨_, hT5⟩, ⟨_, hT7, rfl, z7⟩, hg7, ⟨_, hT9, rfl, z9⟩, hg9, ⟨_, _, _, hO11⟩, hRd, ⟨_, _, _, _, _, hM⟩, hH, hX, hB⟩, (fun k n0 => rfl)⟩
set_option maxRecDepth 100000 in
set_option maxHeartbeats 4000000 in
theorem c_X8_undo0 {l : Launch} {G : Gm} {c : HP} {tm x : List Int} {s0 s1 : List Int} {o : List (Int × Int)} {sd : Int64} (hG : injG G) (hW : WX G c (tm, x, [], s0, s1, o, sd)) : AMet l G yX8_undo cX8_undo 1 ((some .int)) (rmR 2 44) [.ref (G.1 0)] c (Qi (fun v c' => v = zI (fUndo (tm, x, [], s0, s1, o, sd)).1 ∧ WX G c' (fUndo (tm, x, [], s0, s1, o, sd)).2 ∧ (∀ k, 55 ≤ k → c' k = c k))) := by
  refine AMet.of (vl := [some (.ref (G.1 0))]) (by decide) hG (Nat.le_of_ble_eq_true rfl) rfl ?_
  intro K X
  have X : Fx l G K cX8_undo 1 RX8 ((some .int)) (rmR 2 44) := X
  have hW0 := hW
  obtain ⟨hN, h0, ⟨T1, hT1, eT1, z1⟩, hgd, ⟨T3, hT3⟩, ⟨T5, hT5⟩, ⟨T7, hT7, eT7, z7⟩, hg7, ⟨T9, hT9, eT9, z9⟩, hg9, ⟨n11, E11, D11, hO11⟩, hRd, ⟨P0, Q0, X0, ap0, pk0, hM⟩, hH, hX, hB⟩ := hW
  dsimp only at h0 eT1 hgd eT7 hg7 eT9 hg9 hH hX hB
  subst eT1 eT7 eT9
  obtain ⟨p33, h33⟩ := hH.cell
  have hl1 := hT1.len
  have hl7 := hT7.len
  have hl9 := hT9.len
  have hxl := hX.2.1
  refine A_aload_n (q := 1) X dX8_undo_0 rfl rfl ?_
  refine A_getf (q := 4) X fX8_52 dX8_undo_1 (by omega) h0 rfl rfl ?_
  refine A_aload_n (q := 5) X dX8_undo_4 rfl rfl ?_
  refine A_getf (q := 8) X fX8_10 dX8_undo_5 (by omega) h0 rfl rfl ?_
  refine A_V1i (q := 11) X (c_X1_takeBack0 hG hN hH) mX1_takeBack kX8_164 dX8_undo_8 (by omega) h33 rfl (by decide) (Nat.le_of_ble_eq_true rfl) rfl (fun vq_3 cq_2 hq_1 => ?_)
  obtain ⟨rfl, hq_1⟩ := hq_1
  obtain rfl := hq_1.symm
  refine A_if_eq (q := 14) (t := 24) X dX8_undo_11 (by decide) rfl rfl (fun hb11 => ?_) (fun hb11 => ?_)
  · refine A_bipush (q := 26) X dX8_undo_24 (by decide) rfl ?_
    have e9 : fUndo (T1.1, x, [], T7.1, T9.1, o, sd) = (-3, (T1.1, x, ([] : List (List Int)), T7.1, T9.1, o, sd)) := by rfl
    exact A_ireturn X dX8_undo_26 ⟨by rw [e9], by rw [e9]; exact ⟨hN, h0, ⟨_, hT1, rfl, z1⟩, hgd, ⟨_, hT3⟩, ⟨_, hT5⟩, ⟨_, hT7, rfl, z7⟩, hg7, ⟨_, hT9, rfl, z9⟩, hg9, ⟨_, _, _, hO11⟩, hRd, ⟨_, _, _, _, _, hM⟩, hH, hX, hB⟩, (fun k n0 => rfl)⟩
  · exact absurd hb11 (by decide)
set_option maxRecDepth 100000 in
set_option maxHeartbeats 4000000 in
theorem c_X8_undo1 {l : Launch} {G : Gm} {c : HP} {tm x : List Int} {hs : List (List Int)} {s0 s1 : List Int} {o : List (Int × Int)} {sd : Int64} {l0 : List Int} (hG : injG G) (hW : WX G c (tm, x, l0 :: hs, s0, s1, o, sd)) : AMet l G yX8_undo cX8_undo 1 ((some .int)) (rmR 2 44) [.ref (G.1 0)] c (Qi (fun v c' => v = zI (fUndo (tm, x, l0 :: hs, s0, s1, o, sd)).1 ∧ WX G c' (fUndo (tm, x, l0 :: hs, s0, s1, o, sd)).2 ∧ (∀ k, 55 ≤ k → c' k = c k))) := by
  refine AMet.of (vl := [some (.ref (G.1 0))]) (by decide) hG (Nat.le_of_ble_eq_true rfl) rfl ?_
  intro K X
  have X : Fx l G K cX8_undo 1 RX8 ((some .int)) (rmR 2 44) := X
  have hW0 := hW
  obtain ⟨hN, h0, ⟨T1, hT1, eT1, z1⟩, hgd, ⟨T3, hT3⟩, ⟨T5, hT5⟩, ⟨T7, hT7, eT7, z7⟩, hg7, ⟨T9, hT9, eT9, z9⟩, hg9, ⟨n11, E11, D11, hO11⟩, hRd, ⟨P0, Q0, X0, ap0, pk0, hM⟩, hH, hX, hB⟩ := hW
  dsimp only at h0 eT1 hgd eT7 hg7 eT9 hg9 hH hX hB
  subst eT1 eT7 eT9
  obtain ⟨p33, h33⟩ := hH.cell
  have hl1 := hT1.len
  have hl7 := hT7.len
  have hl9 := hT9.len
  have hxl := hX.2.1
  have hgl0 : Gd l0 := by obtain ⟨_, _, _, _, _, _, _, _, _, hgs, _⟩ := hH; exact hgs l0 List.mem_cons_self
  refine A_aload_n (q := 1) X dX8_undo_0 rfl rfl ?_
  refine A_getf (q := 4) X fX8_52 dX8_undo_1 (by omega) h0 rfl rfl ?_
  refine A_aload_n (q := 5) X dX8_undo_4 rfl rfl ?_
  refine A_getf (q := 8) X fX8_10 dX8_undo_5 (by omega) h0 rfl rfl ?_
  refine A_V1i (q := 11) X (c_X1_takeBack1 hG hN hH hT1 (by omega) (by omega)) mX1_takeBack kX8_164 dX8_undo_8 (by omega) h33 rfl (by decide) (Nat.le_of_ble_eq_true rfl) rfl (fun vq_3 cq_2 hq_1 => ?_)
  obtain ⟨rfl, hT1y, hHy, hfy⟩ := hq_1
  refine A_if_eq (q := 14) (t := 24) X dX8_undo_11 (by decide) rfl rfl (fun hb11 => ?_) (fun hb11 => ?_)
  · exact absurd hb11 (by decide)
  · refine A_aload_n (q := 15) X dX8_undo_14 rfl rfl ?_
    refine A_getf (q := 18) X fX8_52 dX8_undo_15 (by omega) ((hfy _ (by omega) (by omega) (by omega)).trans h0) rfl rfl ?_
    obtain ⟨p_4, h33x_5⟩ := hHy.cell
    refine A_V0i (q := 21) X (c_X1_count hG hN hHy) mX1_count kX8_168 dX8_undo_18 (by omega) h33x_5 rfl (by decide) (Nat.le_of_ble_eq_true rfl) rfl (fun vq_8 cq_7 hq_6 => ?_)
    obtain ⟨rfl, hq_6⟩ := hq_6
    obtain rfl := hq_6.symm
    refine A_goto (q := 26) X dX8_undo_21 rfl ?_
    have e9 : fUndo (T1.1, x, l0 :: hs, T7.1, T9.1, o, sd) = (((hs.length : Nat) : Int), (((l0, 0) : List Int × Int).1, x, hs, T7.1, T9.1, o, sd)) := by rfl
    exact A_ireturn X dX8_undo_26 ⟨by rw [e9], by rw [e9]; exact ⟨hN, ((hfy _ (by omega) (by omega) (by omega)).trans h0), ⟨_, hT1y, rfl, rfl⟩, hgl0, ⟨_, (hT3.keep ((hfy 3 (by omega) (by omega) (by omega)).trans rfl) ((hfy 4 (by omega) (by omega) (by omega)).trans rfl))⟩, ⟨_, (hT5.keep ((hfy 5 (by omega) (by omega) (by omega)).trans rfl) ((hfy 6 (by omega) (by omega) (by omega)).trans rfl))⟩, ⟨_, (hT7.keep ((hfy 7 (by omega) (by omega) (by omega)).trans rfl) ((hfy 8 (by omega) (by omega) (by omega)).trans rfl)), rfl, z7⟩, hg7, ⟨_, (hT9.keep ((hfy 9 (by omega) (by omega) (by omega)).trans rfl) ((hfy 10 (by omega) (by omega) (by omega)).trans rfl)), rfl, z9⟩, hg9, ⟨_, _, _, (hO11.keep ((hfy 11 (by omega) (by omega) (by omega)).trans rfl) ((hfy 12 (by omega) (by omega) (by omega)).trans rfl) ((hfy 13 (by omega) (by omega) (by omega)).trans rfl))⟩, (hRd.keep (fun k r0 r1 => ((hfy k (by omega) (by omega) (by omega)).trans rfl))), ⟨_, _, _, _, _, (hM.keep (fun k r0 r1 => ((hfy k (by omega) (by omega) (by omega)).trans rfl)))⟩, hHy, (hX.keep ((hfy 36 (by omega) (by omega) (by omega)).trans rfl) ((hfy 37 (by omega) (by omega) (by omega)).trans rfl)), (hB.keep ((hfy 38 (by omega) (by omega) (by omega)).trans rfl) ((hfy 39 (by omega) (by omega) (by omega)).trans rfl) ((hfy 40 (by omega) (by omega) (by omega)).trans rfl))⟩, (fun k n0 => ((hfy k (by omega) (by omega) (by omega)).trans rfl))⟩
theorem c_X8_undo {l : Launch} {G : Gm} {c : HP} {tm x : List Int} {hs : List (List Int)} {s0 s1 : List Int} {o : List (Int × Int)} {sd : Int64} (hG : injG G) (hW : WX G c (tm, x, hs, s0, s1, o, sd)) : AMet l G yX8_undo cX8_undo 1 ((some .int)) (rmR 2 44) [.ref (G.1 0)] c (Qi (fun v c' => v = zI (fUndo (tm, x, hs, s0, s1, o, sd)).1 ∧ WX G c' (fUndo (tm, x, hs, s0, s1, o, sd)).2 ∧ (∀ k, 55 ≤ k → c' k = c k))) := by
  cases hs with
  | nil => exact c_X8_undo0 hG hW
  | cons l0 hs => exact c_X8_undo1 hG hW
set_option maxRecDepth 100000 in
set_option maxHeartbeats 4000000 in
theorem c_X8_performOnCopy {l : Launch} {G : Gm} {c : HP} {T1 T3 : List Int × Int} {s : Int} {n : Nat} {sd : Int64} (hG : injG G) (hN : G.2.1 = 72) (h0 : c 0 = .inr (8, [.ref (G.1 1), .ref (G.1 3), .ref (G.1 5), .ref (G.1 7), .ref (G.1 9), .ref (G.1 11), .ref (G.1 14), .ref (G.1 23), .ref (G.1 33), .ref (G.1 36), .ref (G.1 38), .long sd])) (hT1 : Tm G c 1 2 T1) (z1 : T1.2 = 0) (hgd : Gd T1.1) (hT3 : Tm G c 3 4 T3) (hRd : Rd G c) (hsr : rg s) (hn : n ≤ 1000) : AMet l G yX8_performOnCopy cX8_performOnCopy 3 ((some .int)) (rmR 5 130) [.ref (G.1 0), .int (zI s), .int (zI ((n : Nat) : Int))] c (Qi (fun v c' => v = zI ((runT s n T1.1).2 : Nat) ∧ Tm G c' 3 4 ((runT s n T1.1).1, 0) ∧ Rd G c' ∧ (∀ k, k < 14 ∨ 22 < k → k ≠ 3 → k ≠ 4 → c' k = c k))) := by
  refine AMet.of (vl := [some (.ref (G.1 0)), some (.int (zI s)), some (.int (zI ((n : Nat) : Int)))]) (by decide) hG (Nat.le_of_ble_eq_true rfl) rfl ?_
  intro K X
  have X : Fx l G K cX8_performOnCopy 3 RX8 ((some .int)) (rmR 5 130) := X
  refine A_aload_n (q := 1) X dX8_performOnCopy_0 rfl rfl ?_
  refine A_getf (q := 4) X fX8_16 dX8_performOnCopy_1 (by omega) h0 rfl rfl ?_
  refine A_aload_n (q := 5) X dX8_performOnCopy_4 rfl rfl ?_
  refine A_getf (q := 8) X fX8_10 dX8_performOnCopy_5 (by omega) h0 rfl rfl ?_
  refine A_V1v (q := 11) X (c_X6_copyFrom hG hT3 hT1 (by omega) (by omega) (by omega) (by omega)) mX6_copyFrom kX8_128 dX8_performOnCopy_8 (by omega) hT3.cell rfl (by decide) (Nat.le_of_ble_eq_true rfl) rfl (fun cq_2 hq_1 => ?_)
  obtain ⟨hT_3, hf_4⟩ := hq_1
  refine A_aload_n (q := 12) X dX8_performOnCopy_11 rfl rfl ?_
  refine A_getf (q := 15) X fX8_38 dX8_performOnCopy_12 (by omega) ((hf_4 _ (by omega) (by omega)).trans h0) rfl rfl ?_
  refine A_aload_n (q := 16) X dX8_performOnCopy_15 rfl rfl ?_
  refine A_getf (q := 19) X fX8_16 dX8_performOnCopy_16 (by omega) ((hf_4 _ (by omega) (by omega)).trans h0) rfl rfl ?_
  refine A_iload_n (q := 20) X dX8_performOnCopy_19 rfl rfl ?_
  refine A_iload_n (q := 21) X dX8_performOnCopy_20 rfl rfl ?_
  refine A_V3i (q := 24) X (c_X5_perform (n0 := (n)) hG hN (by omega) (by omega) (by omega) (by omega) (hRd.keep (fun k r0 r1 => ((hf_4 k (by omega) (by omega)).trans rfl))) hT_3 z1 hgd) mX5_perform kX8_138 dX8_performOnCopy_21 (by omega) (hRd.keep (fun k r0 r1 => ((hf_4 k (by omega) (by omega)).trans rfl))).1 rfl (by decide) (Nat.le_of_ble_eq_true rfl) rfl (fun vq_7 cq_6 hq_5 => ?_)
  obtain ⟨rfl, hT_8, hRd_9, hf_10⟩ := hq_5
  exact A_ireturn X dX8_performOnCopy_24 ⟨rfl, hT_8, hRd_9, (fun k n0 n1 n2 => ((hf_10 k (by omega) (by omega) (by omega)).trans ((hf_4 k (by omega) (by omega)).trans rfl)))⟩
set_option maxRecDepth 100000 in
set_option maxHeartbeats 4000000 in
theorem c_X8_stepsOfRun {l : Launch} {G : Gm} {c : HP} {tm x : List Int} {hs : List (List Int)} {s0 s1 : List Int} {o : List (Int × Int)} {sd : Int64} {s n : Int} (hG : injG G) (hsr : rg s) (hnr : rg n) (hW : WX G c (tm, x, hs, s0, s1, o, sd)) : AMet l G yX8_stepsOfRun cX8_stepsOfRun 3 ((some .int)) (rmR 6 152) [.ref (G.1 0), .int (zI s), .int (zI n)] c (Qi (fun v c' => v = zI (fSteps s n (tm, x, hs, s0, s1, o, sd)).1 ∧ WX G c' (fSteps s n (tm, x, hs, s0, s1, o, sd)).2 ∧ (∀ k, 55 ≤ k → c' k = c k))) := by
  refine AMet.of (vl := [some (.ref (G.1 0)), some (.int (zI s)), some (.int (zI n))]) (by decide) hG (Nat.le_of_ble_eq_true rfl) rfl ?_
  intro K X
  have X : Fx l G K cX8_stepsOfRun 3 RX8 ((some .int)) (rmR 6 152) := X
  have hW0 := hW
  obtain ⟨hN, h0, ⟨T1, hT1, eT1, z1⟩, hgd, ⟨T3, hT3⟩, ⟨T5, hT5⟩, ⟨T7, hT7, eT7, z7⟩, hg7, ⟨T9, hT9, eT9, z9⟩, hg9, ⟨n11, E11, D11, hO11⟩, hRd, ⟨P0, Q0, X0, ap0, pk0, hM⟩, hH, hX, hB⟩ := hW
  dsimp only at h0 eT1 hgd eT7 hg7 eT9 hg9 hH hX hB
  subst eT1 eT7 eT9
  obtain ⟨p33, h33⟩ := hH.cell
  have hl1 := hT1.len
  have hl7 := hT7.len
  have hl9 := hT9.len
  have hxl := hX.2.1
  refine A_iload_n (q := 1) X dX8_stepsOfRun_0 rfl rfl ?_
  refine A_iload_n (q := 2) X dX8_stepsOfRun_1 rfl rfl ?_
  refine A_S2i (q := 5) X (c_X8_isPrediction hG (by omega) (by omega)) mX8_isPrediction kX8_171 dX8_stepsOfRun_2 (by decide) (Nat.le_of_ble_eq_true rfl) rfl (fun vq_3 cq_2 hq_1 => ?_)
  obtain ⟨rfl, hq_1⟩ := hq_1
  obtain rfl := hq_1.symm
  refine A_beq (q := 8) (t := 17) X dX8_stepsOfRun_5 rfl rfl (fun hb5 => ?_) (fun hb5 => ?_)
  · refine A_bipush (q := 19) X dX8_stepsOfRun_17 (by decide) rfl ?_
    have e9 : fSteps s n (T1.1, x, hs, T7.1, T9.1, o, sd) = (-2, (T1.1, x, hs, T7.1, T9.1, o, sd)) := by unfold fSteps; dsimp only; rw [if_neg (by omega)]
    exact A_ireturn X dX8_stepsOfRun_19 ⟨by rw [e9], by rw [e9]; exact ⟨hN, h0, ⟨_, hT1, rfl, z1⟩, hgd, ⟨_, hT3⟩, ⟨_, hT5⟩, ⟨_, hT7, rfl, z7⟩, hg7, ⟨_, hT9, rfl, z9⟩, hg9, ⟨_, _, _, hO11⟩, hRd, ⟨_, _, _, _, _, hM⟩, hH, hX, hB⟩, (fun k n0 => rfl)⟩
  · refine A_aload_n (q := 9) X dX8_stepsOfRun_8 rfl rfl ?_
    refine A_iload_n (q := 10) X dX8_stepsOfRun_9 rfl rfl ?_
    refine A_iload_n (q := 11) X dX8_stepsOfRun_10 rfl rfl ?_
    rw [show zI n = zI (((n).toNat : Nat) : Int) from congrArg zI (by omega)]
    refine A_V2i (q := 14) X (c_X8_performOnCopy (n := (n).toNat) hG hN h0 hT1 z1 hgd hT3 hRd (by omega) (by omega)) mX8_performOnCopy kX8_175 dX8_stepsOfRun_11 (by omega) h0 rfl (by decide) (Nat.le_of_ble_eq_true rfl) rfl (fun vq_6 cq_5 hq_4 => ?_)
    obtain ⟨rfl, hT_7, hRd_8, hf_9⟩ := hq_4
    refine A_goto (q := 19) X dX8_stepsOfRun_14 rfl ?_
    have e9 : fSteps s n (T1.1, x, hs, T7.1, T9.1, o, sd) = ((((runT s n.toNat T1.1).2 : Nat) : Int), (T1.1, x, hs, T7.1, T9.1, o, sd)) := by unfold fSteps; dsimp only; rw [if_pos (by omega)]
    exact A_ireturn X dX8_stepsOfRun_19 ⟨by rw [e9], by rw [e9]; exact ⟨hN, ((hf_9 _ (by omega) (by omega) (by omega)).trans h0), ⟨_, (hT1.keep ((hf_9 1 (by omega) (by omega) (by omega)).trans rfl) ((hf_9 2 (by omega) (by omega) (by omega)).trans rfl)), rfl, z1⟩, hgd, ⟨_, hT_7⟩, ⟨_, (hT5.keep ((hf_9 5 (by omega) (by omega) (by omega)).trans rfl) ((hf_9 6 (by omega) (by omega) (by omega)).trans rfl))⟩, ⟨_, (hT7.keep ((hf_9 7 (by omega) (by omega) (by omega)).trans rfl) ((hf_9 8 (by omega) (by omega) (by omega)).trans rfl)), rfl, z7⟩, hg7, ⟨_, (hT9.keep ((hf_9 9 (by omega) (by omega) (by omega)).trans rfl) ((hf_9 10 (by omega) (by omega) (by omega)).trans rfl)), rfl, z9⟩, hg9, ⟨_, _, _, (hO11.keep ((hf_9 11 (by omega) (by omega) (by omega)).trans rfl) ((hf_9 12 (by omega) (by omega) (by omega)).trans rfl) ((hf_9 13 (by omega) (by omega) (by omega)).trans rfl))⟩, hRd_8, ⟨_, _, _, _, _, (hM.keep (fun k r0 r1 => ((hf_9 k (by omega) (by omega) (by omega)).trans rfl)))⟩, (hH.keep (fun k r0 => ((hf_9 k (by omega) (by omega) (by omega)).trans rfl))), (hX.keep ((hf_9 36 (by omega) (by omega) (by omega)).trans rfl) ((hf_9 37 (by omega) (by omega) (by omega)).trans rfl)), (hB.keep ((hf_9 38 (by omega) (by omega) (by omega)).trans rfl) ((hf_9 39 (by omega) (by omega) (by omega)).trans rfl) ((hf_9 40 (by omega) (by omega) (by omega)).trans rfl))⟩, (fun k n0 => ((hf_9 k (by omega) (by omega) (by omega)).trans rfl))⟩
set_option maxRecDepth 100000 in
set_option maxHeartbeats 4000000 in
theorem c_X8_sizeAfterRun {l : Launch} {G : Gm} {c : HP} {tm x : List Int} {hs : List (List Int)} {s0 s1 : List Int} {o : List (Int × Int)} {sd : Int64} {s n : Int} (hG : injG G) (hsr : rg s) (hnr : rg n) (hW : WX G c (tm, x, hs, s0, s1, o, sd)) : AMet l G yX8_sizeAfterRun cX8_sizeAfterRun 3 ((some .int)) (rmR 6 152) [.ref (G.1 0), .int (zI s), .int (zI n)] c (Qi (fun v c' => v = zI (fAfter s n (tm, x, hs, s0, s1, o, sd)).1 ∧ WX G c' (fAfter s n (tm, x, hs, s0, s1, o, sd)).2 ∧ (∀ k, 55 ≤ k → c' k = c k))) := by
  refine AMet.of (vl := [some (.ref (G.1 0)), some (.int (zI s)), some (.int (zI n))]) (by decide) hG (Nat.le_of_ble_eq_true rfl) rfl ?_
  intro K X
  have X : Fx l G K cX8_sizeAfterRun 3 RX8 ((some .int)) (rmR 6 152) := X
  have hW0 := hW
  obtain ⟨hN, h0, ⟨T1, hT1, eT1, z1⟩, hgd, ⟨T3, hT3⟩, ⟨T5, hT5⟩, ⟨T7, hT7, eT7, z7⟩, hg7, ⟨T9, hT9, eT9, z9⟩, hg9, ⟨n11, E11, D11, hO11⟩, hRd, ⟨P0, Q0, X0, ap0, pk0, hM⟩, hH, hX, hB⟩ := hW
  dsimp only at h0 eT1 hgd eT7 hg7 eT9 hg9 hH hX hB
  subst eT1 eT7 eT9
  obtain ⟨p33, h33⟩ := hH.cell
  have hl1 := hT1.len
  have hl7 := hT7.len
  have hl9 := hT9.len
  have hxl := hX.2.1
  refine A_iload_n (q := 1) X dX8_sizeAfterRun_0 rfl rfl ?_
  refine A_iload_n (q := 2) X dX8_sizeAfterRun_1 rfl rfl ?_
  refine A_S2i (q := 5) X (c_X8_isPrediction hG (by omega) (by omega)) mX8_isPrediction kX8_171 dX8_sizeAfterRun_2 (by decide) (Nat.le_of_ble_eq_true rfl) rfl (fun vq_3 cq_2 hq_1 => ?_)
  obtain ⟨rfl, hq_1⟩ := hq_1
  obtain rfl := hq_1.symm
  refine A_bne (q := 8) (t := 11) X dX8_sizeAfterRun_5 rfl rfl (fun hb5 => ?_) (fun hb5 => ?_)
  · refine A_aload_n (q := 12) X dX8_sizeAfterRun_11 rfl rfl ?_
    refine A_iload_n (q := 13) X dX8_sizeAfterRun_12 rfl rfl ?_
    refine A_iload_n (q := 14) X dX8_sizeAfterRun_13 rfl rfl ?_
    rw [show zI n = zI (((n).toNat : Nat) : Int) from congrArg zI (by omega)]
    refine A_V2i (q := 17) X (c_X8_performOnCopy (n := (n).toNat) hG hN h0 hT1 z1 hgd hT3 hRd (by omega) (by omega)) mX8_performOnCopy kX8_175 dX8_sizeAfterRun_14 (by omega) h0 rfl (by decide) (Nat.le_of_ble_eq_true rfl) rfl (fun vq_6 cq_5 hq_4 => ?_)
    obtain ⟨rfl, hT_7, hRd_8, hf_9⟩ := hq_4
    refine A_pop (q := 18) X dX8_sizeAfterRun_17 rfl rfl ?_
    refine A_aload_n (q := 19) X dX8_sizeAfterRun_18 rfl rfl ?_
    refine A_getf (q := 22) X fX8_16 dX8_sizeAfterRun_19 (by omega) ((hf_9 _ (by omega) (by omega) (by omega)).trans h0) rfl rfl ?_
    refine A_V0i (q := 25) X (c_X6_length hG hT_7) mX6_length kX8_100 dX8_sizeAfterRun_22 (by omega) hT_7.cell rfl (by decide) (Nat.le_of_ble_eq_true rfl) rfl (fun vq_12 cq_11 hq_10 => ?_)
    obtain ⟨rfl, hq_10⟩ := hq_10
    obtain rfl := hq_10.symm
    have e9 : fAfter s n (T1.1, x, hs, T7.1, T9.1, o, sd) = ((((runT s n.toNat T1.1).1.length : Nat) : Int), (T1.1, x, hs, T7.1, T9.1, o, sd)) := by unfold fAfter; dsimp only; rw [if_pos (by omega)]
    exact A_ireturn X dX8_sizeAfterRun_25 ⟨by rw [e9], by rw [e9]; exact ⟨hN, ((hf_9 _ (by omega) (by omega) (by omega)).trans h0), ⟨_, (hT1.keep ((hf_9 1 (by omega) (by omega) (by omega)).trans rfl) ((hf_9 2 (by omega) (by omega) (by omega)).trans rfl)), rfl, z1⟩, hgd, ⟨_, hT_7⟩, ⟨_, (hT5.keep ((hf_9 5 (by omega) (by omega) (by omega)).trans rfl) ((hf_9 6 (by omega) (by omega) (by omega)).trans rfl))⟩, ⟨_, (hT7.keep ((hf_9 7 (by omega) (by omega) (by omega)).trans rfl) ((hf_9 8 (by omega) (by omega) (by omega)).trans rfl)), rfl, z7⟩, hg7, ⟨_, (hT9.keep ((hf_9 9 (by omega) (by omega) (by omega)).trans rfl) ((hf_9 10 (by omega) (by omega) (by omega)).trans rfl)), rfl, z9⟩, hg9, ⟨_, _, _, (hO11.keep ((hf_9 11 (by omega) (by omega) (by omega)).trans rfl) ((hf_9 12 (by omega) (by omega) (by omega)).trans rfl) ((hf_9 13 (by omega) (by omega) (by omega)).trans rfl))⟩, hRd_8, ⟨_, _, _, _, _, (hM.keep (fun k r0 r1 => ((hf_9 k (by omega) (by omega) (by omega)).trans rfl)))⟩, (hH.keep (fun k r0 => ((hf_9 k (by omega) (by omega) (by omega)).trans rfl))), (hX.keep ((hf_9 36 (by omega) (by omega) (by omega)).trans rfl) ((hf_9 37 (by omega) (by omega) (by omega)).trans rfl)), (hB.keep ((hf_9 38 (by omega) (by omega) (by omega)).trans rfl) ((hf_9 39 (by omega) (by omega) (by omega)).trans rfl) ((hf_9 40 (by omega) (by omega) (by omega)).trans rfl))⟩, (fun k n0 => ((hf_9 k (by omega) (by omega) (by omega)).trans rfl))⟩
  · refine A_bipush (q := 10) X dX8_sizeAfterRun_8 (by decide) rfl ?_
    have e9 : fAfter s n (T1.1, x, hs, T7.1, T9.1, o, sd) = (-2, (T1.1, x, hs, T7.1, T9.1, o, sd)) := by unfold fAfter; dsimp only; rw [if_neg (by omega)]
    exact A_ireturn X dX8_sizeAfterRun_10 ⟨by rw [e9], by rw [e9]; exact ⟨hN, h0, ⟨_, hT1, rfl, z1⟩, hgd, ⟨_, hT3⟩, ⟨_, hT5⟩, ⟨_, hT7, rfl, z7⟩, hg7, ⟨_, hT9, rfl, z9⟩, hg9, ⟨_, _, _, hO11⟩, hRd, ⟨_, _, _, _, _, hM⟩, hH, hX, hB⟩, (fun k n0 => rfl)⟩
set_option maxRecDepth 100000 in
set_option maxHeartbeats 4000000 in
theorem c_X8_normaliseInto {l : Launch} {G : Gm} {c : HP} {h a h2 a2 : Nat} {T V : List Int × Int} {sd : Int64} (hG : injG G) (hN : G.2.1 = 72) (h0 : c 0 = .inr (8, [.ref (G.1 1), .ref (G.1 3), .ref (G.1 5), .ref (G.1 7), .ref (G.1 9), .ref (G.1 11), .ref (G.1 14), .ref (G.1 23), .ref (G.1 33), .ref (G.1 36), .ref (G.1 38), .long sd])) (hT : Tm G c h a T) (hV : Tm G c h2 a2 V) (zV : V.2 = 0) (hgV : Gd V.1) (hRd : Rd G c) (x0 : 0 < h) (x1 : h < 11) (x2 : 0 < a ∧ a < 11) (x3 : h2 < 11) (x4 : a2 < 11) (y1 : h ≠ h2) (y2 : h ≠ a2) (y3 : a ≠ h2) (y4 : a ≠ a2) : AMet l G yX8_normaliseInto cX8_normaliseInto 3 ((some .boolean)) (rmR 5 130) [.ref (G.1 0), .ref (G.1 h), .ref (G.1 h2)] c (Qi (fun v c' => v = zI (if isN V.1 then 1 else 0) ∧ Tm G c' h a (nrm V.1, 0) ∧ Rd G c' ∧ (∀ k, k < 14 ∨ 22 < k → k ≠ h → k ≠ a → c' k = c k))) := by
  refine AMet.of (vl := [some (.ref (G.1 0)), some (.ref (G.1 h)), some (.ref (G.1 h2))]) (by decide) hG (Nat.le_of_ble_eq_true rfl) rfl ?_
  intro K X
  have X : Fx l G K cX8_normaliseInto 3 RX8 ((some .boolean)) (rmR 5 130) := X
  refine A_aload_n (q := 1) X dX8_normaliseInto_0 rfl rfl ?_
  refine A_aload_n (q := 2) X dX8_normaliseInto_1 rfl rfl ?_
  refine A_V1v (q := 5) X (c_X6_copyFrom hG hT hV (by omega) (by omega) (by omega) (by omega)) mX6_copyFrom kX8_128 dX8_normaliseInto_2 hT.lt hT.cell rfl (by decide) (Nat.le_of_ble_eq_true rfl) rfl (fun cq_2 hq_1 => ?_)
  obtain ⟨hT_3, hf_4⟩ := hq_1
  refine A_aload_n (q := 6) X dX8_normaliseInto_5 rfl rfl ?_
  refine A_getf (q := 9) X fX8_38 dX8_normaliseInto_6 (by omega) ((hf_4 _ (by omega) (by omega)).trans h0) rfl rfl ?_
  refine A_aload_n (q := 10) X dX8_normaliseInto_9 rfl rfl ?_
  refine A_iconst (q := 11) X dX8_normaliseInto_10 rfl ?_
  refine A_sipush (q := 14) X dX8_normaliseInto_11 (by decide) rfl ?_
  refine A_V3i (q := 17) X (c_X5_perform (n0 := 200) hG hN (by decide) (by omega) (by omega) (by omega) (hRd.keep (fun k r0 r1 => ((hf_4 k (by omega) (by omega)).trans rfl))) hT_3 zV hgV) mX5_perform kX8_138 dX8_normaliseInto_14 (by omega) (hRd.keep (fun k r0 r1 => ((hf_4 k (by omega) (by omega)).trans rfl))).1 rfl (by decide) (Nat.le_of_ble_eq_true rfl) rfl (fun vq_7 cq_6 hq_5 => ?_)
  obtain ⟨rfl, hT_8, hRd_9, hf_10⟩ := hq_5
  refine A_pop (q := 18) X dX8_normaliseInto_17 rfl rfl ?_
  refine A_aload_n (q := 19) X dX8_normaliseInto_18 rfl rfl ?_
  refine A_iconst (q := 20) X dX8_normaliseInto_19 rfl ?_
  refine A_S2i (q := 23) X (c_X5_nextRedex hG hT_8 (Gd_run 0 200 _ hgV)) mX5_nextRedex kX8_221 dX8_normaliseInto_20 (by decide) (Nat.le_of_ble_eq_true rfl) rfl (fun vq_13 cq_12 hq_11 => ?_)
  obtain ⟨rfl, hq_11⟩ := hq_11
  obtain rfl := hq_11.symm
  have hfr : -9 ≤ fnd (rx (runT 0 200 V.1).1) (runT 0 200 V.1).1.length ∧ fnd (rx (runT 0 200 V.1).1) (runT 0 200 V.1).1.length ≤ 1000 := by have hgr := (Gd_run 0 200 _ hgV).1; rcases fnd_cases (rx (runT 0 200 V.1).1) (runT 0 200 V.1).1.length with ⟨h, -⟩ | ⟨k, h1, h2, -⟩ <;> omega
  show AW G K _ _ _ (.int (zI (fnd (rx (runT 0 200 V.1).1) (runT 0 200 V.1).1.length)) :: []) _
  refine A_bipush (q := 25) X dX8_normaliseInto_23 (by decide) rfl ?_
  refine A_icmp_ne (q := 28) (t := 32) X dX8_normaliseInto_25 (by omega) (by decide) rfl rfl (fun hb25 => ?_) (fun hb25 => ?_)
  · refine A_iconst (q := 33) X dX8_normaliseInto_32 rfl ?_
    exact A_zreturn X dX8_normaliseInto_33 (by decide) ⟨zb0 (by unfold isN nrm; omega), hT_8, hRd_9, (fun k n0 n1 n2 => ((hf_10 k (by omega) (by omega) (by omega)).trans ((hf_4 k (by omega) (by omega)).trans rfl)))⟩
  · refine A_iconst (q := 29) X dX8_normaliseInto_28 rfl ?_
    refine A_goto (q := 33) X dX8_normaliseInto_29 rfl ?_
    exact A_zreturn X dX8_normaliseInto_33 (by decide) ⟨zb1 (by unfold isN nrm; omega), hT_8, hRd_9, (fun k n0 n1 n2 => ((hf_10 k (by omega) (by omega) (by omega)).trans ((hf_4 k (by omega) (by omega)).trans rfl)))⟩
set_option maxRecDepth 100000 in
set_option maxHeartbeats 4000000 in
theorem c_X8_normalSize {l : Launch} {G : Gm} {c : HP} {tm x : List Int} {hs : List (List Int)} {s0 s1 : List Int} {o : List (Int × Int)} {sd : Int64} (hG : injG G)  (hW : WX G c (tm, x, hs, s0, s1, o, sd)) : AMet l G yX8_normalSize cX8_normalSize 1 ((some .int)) (rmR 6 152) [.ref (G.1 0)] c (Qi (fun v c' => v = zI (fNSize (tm, x, hs, s0, s1, o, sd)).1 ∧ WX G c' (fNSize (tm, x, hs, s0, s1, o, sd)).2 ∧ (∀ k, 55 ≤ k → c' k = c k))) := by
  refine AMet.of (vl := [some (.ref (G.1 0))]) (by decide) hG (Nat.le_of_ble_eq_true rfl) rfl ?_
  intro K X
  have X : Fx l G K cX8_normalSize 1 RX8 ((some .int)) (rmR 6 152) := X
  have hW0 := hW
  obtain ⟨hN, h0, ⟨T1, hT1, eT1, z1⟩, hgd, ⟨T3, hT3⟩, ⟨T5, hT5⟩, ⟨T7, hT7, eT7, z7⟩, hg7, ⟨T9, hT9, eT9, z9⟩, hg9, ⟨n11, E11, D11, hO11⟩, hRd, ⟨P0, Q0, X0, ap0, pk0, hM⟩, hH, hX, hB⟩ := hW
  dsimp only at h0 eT1 hgd eT7 hg7 eT9 hg9 hH hX hB
  subst eT1 eT7 eT9
  obtain ⟨p33, h33⟩ := hH.cell
  have hl1 := hT1.len
  have hl7 := hT7.len
  have hl9 := hT9.len
  have hxl := hX.2.1
  refine A_aload_n (q := 1) X dX8_normalSize_0 rfl rfl ?_
  refine A_aload_n (q := 2) X dX8_normalSize_1 rfl rfl ?_
  refine A_getf (q := 5) X fX8_16 dX8_normalSize_2 (by omega) h0 rfl rfl ?_
  refine A_aload_n (q := 6) X dX8_normalSize_5 rfl rfl ?_
  refine A_getf (q := 9) X fX8_10 dX8_normalSize_6 (by omega) h0 rfl rfl ?_
  refine A_V2i (q := 12) X (c_X8_normaliseInto hG hN h0 hT3 hT1 z1 hgd hRd (by omega) (by omega) (by omega) (by omega) (by omega) (by omega) (by omega) (by omega) (by omega)) mX8_normaliseInto kX8_179 dX8_normalSize_9 (by omega) h0 rfl (by decide) (Nat.le_of_ble_eq_true rfl) rfl (fun vq_3 cq_2 hq_1 => ?_)
  obtain ⟨rfl, hT_4, hRd_5, hf_6⟩ := hq_1
  refine A_beq (q := 15) (t := 25) X dX8_normalSize_12 rfl rfl (fun hb12 => ?_) (fun hb12 => ?_)
  · refine A_bipush (q := 27) X dX8_normalSize_25 (by decide) rfl ?_
    have e9 : fNSize (T1.1, x, hs, T7.1, T9.1, o, sd) = (-9, (T1.1, x, hs, T7.1, T9.1, o, sd)) := by unfold fNSize; dsimp only; rw [if_neg hb12]
    exact A_ireturn X dX8_normalSize_27 ⟨by rw [e9], by rw [e9]; exact ⟨hN, ((hf_6 _ (by omega) (by omega) (by omega)).trans h0), ⟨_, (hT1.keep ((hf_6 1 (by omega) (by omega) (by omega)).trans rfl) ((hf_6 2 (by omega) (by omega) (by omega)).trans rfl)), rfl, z1⟩, hgd, ⟨_, hT_4⟩, ⟨_, (hT5.keep ((hf_6 5 (by omega) (by omega) (by omega)).trans rfl) ((hf_6 6 (by omega) (by omega) (by omega)).trans rfl))⟩, ⟨_, (hT7.keep ((hf_6 7 (by omega) (by omega) (by omega)).trans rfl) ((hf_6 8 (by omega) (by omega) (by omega)).trans rfl)), rfl, z7⟩, hg7, ⟨_, (hT9.keep ((hf_6 9 (by omega) (by omega) (by omega)).trans rfl) ((hf_6 10 (by omega) (by omega) (by omega)).trans rfl)), rfl, z9⟩, hg9, ⟨_, _, _, (hO11.keep ((hf_6 11 (by omega) (by omega) (by omega)).trans rfl) ((hf_6 12 (by omega) (by omega) (by omega)).trans rfl) ((hf_6 13 (by omega) (by omega) (by omega)).trans rfl))⟩, hRd_5, ⟨_, _, _, _, _, (hM.keep (fun k r0 r1 => ((hf_6 k (by omega) (by omega) (by omega)).trans rfl)))⟩, (hH.keep (fun k r0 => ((hf_6 k (by omega) (by omega) (by omega)).trans rfl))), (hX.keep ((hf_6 36 (by omega) (by omega) (by omega)).trans rfl) ((hf_6 37 (by omega) (by omega) (by omega)).trans rfl)), (hB.keep ((hf_6 38 (by omega) (by omega) (by omega)).trans rfl) ((hf_6 39 (by omega) (by omega) (by omega)).trans rfl) ((hf_6 40 (by omega) (by omega) (by omega)).trans rfl))⟩, (fun k n0 => ((hf_6 k (by omega) (by omega) (by omega)).trans rfl))⟩
  · refine A_aload_n (q := 16) X dX8_normalSize_15 rfl rfl ?_
    refine A_getf (q := 19) X fX8_16 dX8_normalSize_16 (by omega) ((hf_6 _ (by omega) (by omega) (by omega)).trans h0) rfl rfl ?_
    refine A_V0i (q := 22) X (c_X6_length hG hT_4) mX6_length kX8_100 dX8_normalSize_19 (by omega) hT_4.cell rfl (by decide) (Nat.le_of_ble_eq_true rfl) rfl (fun vq_9 cq_8 hq_7 => ?_)
    obtain ⟨rfl, hq_7⟩ := hq_7
    obtain rfl := hq_7.symm
    refine A_goto (q := 27) X dX8_normalSize_22 rfl ?_
    have e9 : fNSize (T1.1, x, hs, T7.1, T9.1, o, sd) = ((((nrm T1.1).length : Nat) : Int), (T1.1, x, hs, T7.1, T9.1, o, sd)) := by unfold fNSize; dsimp only; rw [if_pos hb12]
    exact A_ireturn X dX8_normalSize_27 ⟨by rw [e9], by rw [e9]; exact ⟨hN, ((hf_6 _ (by omega) (by omega) (by omega)).trans h0), ⟨_, (hT1.keep ((hf_6 1 (by omega) (by omega) (by omega)).trans rfl) ((hf_6 2 (by omega) (by omega) (by omega)).trans rfl)), rfl, z1⟩, hgd, ⟨_, hT_4⟩, ⟨_, (hT5.keep ((hf_6 5 (by omega) (by omega) (by omega)).trans rfl) ((hf_6 6 (by omega) (by omega) (by omega)).trans rfl))⟩, ⟨_, (hT7.keep ((hf_6 7 (by omega) (by omega) (by omega)).trans rfl) ((hf_6 8 (by omega) (by omega) (by omega)).trans rfl)), rfl, z7⟩, hg7, ⟨_, (hT9.keep ((hf_6 9 (by omega) (by omega) (by omega)).trans rfl) ((hf_6 10 (by omega) (by omega) (by omega)).trans rfl)), rfl, z9⟩, hg9, ⟨_, _, _, (hO11.keep ((hf_6 11 (by omega) (by omega) (by omega)).trans rfl) ((hf_6 12 (by omega) (by omega) (by omega)).trans rfl) ((hf_6 13 (by omega) (by omega) (by omega)).trans rfl))⟩, hRd_5, ⟨_, _, _, _, _, (hM.keep (fun k r0 r1 => ((hf_6 k (by omega) (by omega) (by omega)).trans rfl)))⟩, (hH.keep (fun k r0 => ((hf_6 k (by omega) (by omega) (by omega)).trans rfl))), (hX.keep ((hf_6 36 (by omega) (by omega) (by omega)).trans rfl) ((hf_6 37 (by omega) (by omega) (by omega)).trans rfl)), (hB.keep ((hf_6 38 (by omega) (by omega) (by omega)).trans rfl) ((hf_6 39 (by omega) (by omega) (by omega)).trans rfl) ((hf_6 40 (by omega) (by omega) (by omega)).trans rfl))⟩, (fun k n0 => ((hf_6 k (by omega) (by omega) (by omega)).trans rfl))⟩
set_option maxRecDepth 100000 in
set_option maxHeartbeats 4000000 in
theorem c_X8_normalTokenAt {l : Launch} {G : Gm} {c : HP} {tm x : List Int} {hs : List (List Int)} {s0 s1 : List Int} {o : List (Int × Int)} {sd : Int64} {p : Int} (hG : injG G) (hp : rg p) (hW : WX G c (tm, x, hs, s0, s1, o, sd)) : AMet l G yX8_normalTokenAt cX8_normalTokenAt 2 ((some .int)) (rmR 6 152) [.ref (G.1 0), .int (zI p)] c (Qi (fun v c' => v = zI (fNTok p (tm, x, hs, s0, s1, o, sd)).1 ∧ WX G c' (fNTok p (tm, x, hs, s0, s1, o, sd)).2 ∧ (∀ k, 55 ≤ k → c' k = c k))) := by
  refine AMet.of (vl := [some (.ref (G.1 0)), some (.int (zI p))]) (by decide) hG (Nat.le_of_ble_eq_true rfl) rfl ?_
  intro K X
  have X : Fx l G K cX8_normalTokenAt 2 RX8 ((some .int)) (rmR 6 152) := X
  have hW0 := hW
  obtain ⟨hN, h0, ⟨T1, hT1, eT1, z1⟩, hgd, ⟨T3, hT3⟩, ⟨T5, hT5⟩, ⟨T7, hT7, eT7, z7⟩, hg7, ⟨T9, hT9, eT9, z9⟩, hg9, ⟨n11, E11, D11, hO11⟩, hRd, ⟨P0, Q0, X0, ap0, pk0, hM⟩, hH, hX, hB⟩ := hW
  dsimp only at h0 eT1 hgd eT7 hg7 eT9 hg9 hH hX hB
  subst eT1 eT7 eT9
  obtain ⟨p33, h33⟩ := hH.cell
  have hl1 := hT1.len
  have hl7 := hT7.len
  have hl9 := hT9.len
  have hxl := hX.2.1
  refine A_aload_n (q := 1) X dX8_normalTokenAt_0 rfl rfl ?_
  refine A_aload_n (q := 2) X dX8_normalTokenAt_1 rfl rfl ?_
  refine A_getf (q := 5) X fX8_16 dX8_normalTokenAt_2 (by omega) h0 rfl rfl ?_
  refine A_aload_n (q := 6) X dX8_normalTokenAt_5 rfl rfl ?_
  refine A_getf (q := 9) X fX8_10 dX8_normalTokenAt_6 (by omega) h0 rfl rfl ?_
  refine A_V2i (q := 12) X (c_X8_normaliseInto hG hN h0 hT3 hT1 z1 hgd hRd (by omega) (by omega) (by omega) (by omega) (by omega) (by omega) (by omega) (by omega) (by omega)) mX8_normaliseInto kX8_179 dX8_normalTokenAt_9 (by omega) h0 rfl (by decide) (Nat.le_of_ble_eq_true rfl) rfl (fun vq_3 cq_2 hq_1 => ?_)
  obtain ⟨rfl, hT_4, hRd_5, hf_6⟩ := hq_1
  refine A_bne (q := 15) (t := 18) X dX8_normalTokenAt_12 rfl rfl (fun hb12 => ?_) (fun hb12 => ?_)
  · refine A_aload_n (q := 19) X dX8_normalTokenAt_18 rfl rfl ?_
    refine A_getf (q := 22) X fX8_16 dX8_normalTokenAt_19 (by omega) ((hf_6 _ (by omega) (by omega) (by omega)).trans h0) rfl rfl ?_
    refine A_iload_n (q := 23) X dX8_normalTokenAt_22 rfl rfl ?_
    refine A_V1i (q := 26) X (c_X6_has hG hT_4 (by omega)) mX6_has kX8_101 dX8_normalTokenAt_23 (by omega) hT_4.cell rfl (by decide) (Nat.le_of_ble_eq_true rfl) rfl (fun vq_9 cq_8 hq_7 => ?_)
    obtain ⟨rfl, hq_7⟩ := hq_7
    obtain rfl := hq_7.symm
    refine A_beq (q := 29) (t := 40) X dX8_normalTokenAt_26 rfl rfl (fun hb26 => ?_) (fun hb26 => ?_)
    · refine A_iconst (q := 41) X dX8_normalTokenAt_40 rfl ?_
      have e9 : fNTok p (T1.1, x, hs, T7.1, T9.1, o, sd) = (-1, (T1.1, x, hs, T7.1, T9.1, o, sd)) := by unfold fNTok; dsimp only; rw [if_pos hb12]; unfold tokA; rw [if_neg hb26]
      exact A_ireturn X dX8_normalTokenAt_41 ⟨by rw [e9], by rw [e9]; exact ⟨hN, ((hf_6 _ (by omega) (by omega) (by omega)).trans h0), ⟨_, (hT1.keep ((hf_6 1 (by omega) (by omega) (by omega)).trans rfl) ((hf_6 2 (by omega) (by omega) (by omega)).trans rfl)), rfl, z1⟩, hgd, ⟨_, hT_4⟩, ⟨_, (hT5.keep ((hf_6 5 (by omega) (by omega) (by omega)).trans rfl) ((hf_6 6 (by omega) (by omega) (by omega)).trans rfl))⟩, ⟨_, (hT7.keep ((hf_6 7 (by omega) (by omega) (by omega)).trans rfl) ((hf_6 8 (by omega) (by omega) (by omega)).trans rfl)), rfl, z7⟩, hg7, ⟨_, (hT9.keep ((hf_6 9 (by omega) (by omega) (by omega)).trans rfl) ((hf_6 10 (by omega) (by omega) (by omega)).trans rfl)), rfl, z9⟩, hg9, ⟨_, _, _, (hO11.keep ((hf_6 11 (by omega) (by omega) (by omega)).trans rfl) ((hf_6 12 (by omega) (by omega) (by omega)).trans rfl) ((hf_6 13 (by omega) (by omega) (by omega)).trans rfl))⟩, hRd_5, ⟨_, _, _, _, _, (hM.keep (fun k r0 r1 => ((hf_6 k (by omega) (by omega) (by omega)).trans rfl)))⟩, (hH.keep (fun k r0 => ((hf_6 k (by omega) (by omega) (by omega)).trans rfl))), (hX.keep ((hf_6 36 (by omega) (by omega) (by omega)).trans rfl) ((hf_6 37 (by omega) (by omega) (by omega)).trans rfl)), (hB.keep ((hf_6 38 (by omega) (by omega) (by omega)).trans rfl) ((hf_6 39 (by omega) (by omega) (by omega)).trans rfl) ((hf_6 40 (by omega) (by omega) (by omega)).trans rfl))⟩, (fun k n0 => ((hf_6 k (by omega) (by omega) (by omega)).trans rfl))⟩
    · refine A_aload_n (q := 30) X dX8_normalTokenAt_29 rfl rfl ?_
      refine A_getf (q := 33) X fX8_16 dX8_normalTokenAt_30 (by omega) ((hf_6 _ (by omega) (by omega) (by omega)).trans h0) rfl rfl ?_
      refine A_iload_n (q := 34) X dX8_normalTokenAt_33 rfl rfl ?_
      refine A_V1i (q := 37) X (c_X6_token hG hT_4 (by omega)) mX6_token kX8_104 dX8_normalTokenAt_34 (by omega) hT_4.cell rfl (by decide) (Nat.le_of_ble_eq_true rfl) rfl (fun vq_12 cq_11 hq_10 => ?_)
      obtain ⟨rfl, hq_10⟩ := hq_10
      obtain rfl := hq_10.symm
      refine A_goto (q := 41) X dX8_normalTokenAt_37 rfl ?_
      have e9 : fNTok p (T1.1, x, hs, T7.1, T9.1, o, sd) = (tokA (nrm T1.1) p, (T1.1, x, hs, T7.1, T9.1, o, sd)) := by unfold fNTok; dsimp only; rw [if_pos hb12]
      exact A_ireturn X dX8_normalTokenAt_41 ⟨by rw [e9], by rw [e9]; exact ⟨hN, ((hf_6 _ (by omega) (by omega) (by omega)).trans h0), ⟨_, (hT1.keep ((hf_6 1 (by omega) (by omega) (by omega)).trans rfl) ((hf_6 2 (by omega) (by omega) (by omega)).trans rfl)), rfl, z1⟩, hgd, ⟨_, hT_4⟩, ⟨_, (hT5.keep ((hf_6 5 (by omega) (by omega) (by omega)).trans rfl) ((hf_6 6 (by omega) (by omega) (by omega)).trans rfl))⟩, ⟨_, (hT7.keep ((hf_6 7 (by omega) (by omega) (by omega)).trans rfl) ((hf_6 8 (by omega) (by omega) (by omega)).trans rfl)), rfl, z7⟩, hg7, ⟨_, (hT9.keep ((hf_6 9 (by omega) (by omega) (by omega)).trans rfl) ((hf_6 10 (by omega) (by omega) (by omega)).trans rfl)), rfl, z9⟩, hg9, ⟨_, _, _, (hO11.keep ((hf_6 11 (by omega) (by omega) (by omega)).trans rfl) ((hf_6 12 (by omega) (by omega) (by omega)).trans rfl) ((hf_6 13 (by omega) (by omega) (by omega)).trans rfl))⟩, hRd_5, ⟨_, _, _, _, _, (hM.keep (fun k r0 r1 => ((hf_6 k (by omega) (by omega) (by omega)).trans rfl)))⟩, (hH.keep (fun k r0 => ((hf_6 k (by omega) (by omega) (by omega)).trans rfl))), (hX.keep ((hf_6 36 (by omega) (by omega) (by omega)).trans rfl) ((hf_6 37 (by omega) (by omega) (by omega)).trans rfl)), (hB.keep ((hf_6 38 (by omega) (by omega) (by omega)).trans rfl) ((hf_6 39 (by omega) (by omega) (by omega)).trans rfl) ((hf_6 40 (by omega) (by omega) (by omega)).trans rfl))⟩, (fun k n0 => ((hf_6 k (by omega) (by omega) (by omega)).trans rfl))⟩
  · refine A_bipush (q := 17) X dX8_normalTokenAt_15 (by decide) rfl ?_
    have e9 : fNTok p (T1.1, x, hs, T7.1, T9.1, o, sd) = (-9, (T1.1, x, hs, T7.1, T9.1, o, sd)) := by unfold fNTok; dsimp only; rw [if_neg hb12]
    exact A_ireturn X dX8_normalTokenAt_17 ⟨by rw [e9], by rw [e9]; exact ⟨hN, ((hf_6 _ (by omega) (by omega) (by omega)).trans h0), ⟨_, (hT1.keep ((hf_6 1 (by omega) (by omega) (by omega)).trans rfl) ((hf_6 2 (by omega) (by omega) (by omega)).trans rfl)), rfl, z1⟩, hgd, ⟨_, hT_4⟩, ⟨_, (hT5.keep ((hf_6 5 (by omega) (by omega) (by omega)).trans rfl) ((hf_6 6 (by omega) (by omega) (by omega)).trans rfl))⟩, ⟨_, (hT7.keep ((hf_6 7 (by omega) (by omega) (by omega)).trans rfl) ((hf_6 8 (by omega) (by omega) (by omega)).trans rfl)), rfl, z7⟩, hg7, ⟨_, (hT9.keep ((hf_6 9 (by omega) (by omega) (by omega)).trans rfl) ((hf_6 10 (by omega) (by omega) (by omega)).trans rfl)), rfl, z9⟩, hg9, ⟨_, _, _, (hO11.keep ((hf_6 11 (by omega) (by omega) (by omega)).trans rfl) ((hf_6 12 (by omega) (by omega) (by omega)).trans rfl) ((hf_6 13 (by omega) (by omega) (by omega)).trans rfl))⟩, hRd_5, ⟨_, _, _, _, _, (hM.keep (fun k r0 r1 => ((hf_6 k (by omega) (by omega) (by omega)).trans rfl)))⟩, (hH.keep (fun k r0 => ((hf_6 k (by omega) (by omega) (by omega)).trans rfl))), (hX.keep ((hf_6 36 (by omega) (by omega) (by omega)).trans rfl) ((hf_6 37 (by omega) (by omega) (by omega)).trans rfl)), (hB.keep ((hf_6 38 (by omega) (by omega) (by omega)).trans rfl) ((hf_6 39 (by omega) (by omega) (by omega)).trans rfl) ((hf_6 40 (by omega) (by omega) (by omega)).trans rfl))⟩, (fun k n0 => ((hf_6 k (by omega) (by omega) (by omega)).trans rfl))⟩
set_option maxRecDepth 100000 in
set_option maxHeartbeats 4000000 in
theorem c_X8_isEquivalent {l : Launch} {G : Gm} {c : HP} {tm x : List Int} {hs : List (List Int)} {s0 s1 : List Int} {o : List (Int × Int)} {sd : Int64} {k : Int} (hG : injG G) (hkr : rg k) (hW : WX G c (tm, x, hs, s0, s1, o, sd)) : AMet l G yX8_isEquivalent cX8_isEquivalent 3 ((some .int)) (rmR 6 152) [.ref (G.1 0), .int (zI k)] c (Qi (fun v c' => v = zI (fEquiv k (tm, x, hs, s0, s1, o, sd)).1 ∧ WX G c' (fEquiv k (tm, x, hs, s0, s1, o, sd)).2 ∧ (∀ k, 55 ≤ k → c' k = c k))) := by
  refine AMet.of (vl := [some (.ref (G.1 0)), some (.int (zI k))]) (by decide) hG (Nat.le_of_ble_eq_true rfl) rfl ?_
  intro K X
  have X : Fx l G K cX8_isEquivalent 3 RX8 ((some .int)) (rmR 6 152) := X
  have hW0 := hW
  obtain ⟨hN, h0, ⟨T1, hT1, eT1, z1⟩, hgd, ⟨T3, hT3⟩, ⟨T5, hT5⟩, ⟨T7, hT7, eT7, z7⟩, hg7, ⟨T9, hT9, eT9, z9⟩, hg9, ⟨n11, E11, D11, hO11⟩, hRd, ⟨P0, Q0, X0, ap0, pk0, hM⟩, hH, hX, hB⟩ := hW
  dsimp only at h0 eT1 hgd eT7 hg7 eT9 hg9 hH hX hB
  subst eT1 eT7 eT9
  obtain ⟨p33, h33⟩ := hH.cell
  have hl1 := hT1.len
  have hl7 := hT7.len
  have hl9 := hT9.len
  have hxl := hX.2.1
  refine A_iload_n (q := 1) X dX8_isEquivalent_0 rfl rfl ?_
  refine A_S1i (q := 4) X (c_X8_isSlot hG (by omega)) mX8_isSlot kX8_146 dX8_isEquivalent_1 (by decide) (Nat.le_of_ble_eq_true rfl) rfl (fun vq_3 cq_2 hq_1 => ?_)
  obtain ⟨rfl, hq_1⟩ := hq_1
  obtain rfl := hq_1.symm
  refine A_bne (q := 7) (t := 9) X dX8_isEquivalent_4 rfl rfl (fun hb4 => ?_) (fun hb4 => ?_)
  · refine A_aload_n (q := 10) X dX8_isEquivalent_9 rfl rfl ?_
    refine A_iload_n (q := 11) X dX8_isEquivalent_10 rfl rfl ?_
    refine A_V1r (q := 14) X (c_X8_slotTerm hG (by omega) hW0) mX8_slotTerm kX8_149 dX8_isEquivalent_11 (by omega) h0 rfl (by decide) (Nat.le_of_ble_eq_true rfl) rfl (fun vq_6 cq_5 hq_4 => ?_)
    obtain ⟨hqs, hq_4⟩ := hq_4
    obtain rfl := hq_4.symm
    by_cases hk0 : k = 0
    · rw [if_pos hk0] at hqs
      subst hqs
      have es : sltS (T1.1, x, hs, T7.1, T9.1, o, sd) k = T7.1 := by unfold sltS; rw [if_pos hk0]
      refine A_astore_n (q := 15) X dX8_isEquivalent_14 (by decide) (okP_s rfl rfl) rfl ?_
      refine A_aload_n (q := 16) X dX8_isEquivalent_15 rfl rfl ?_
      refine A_V0i (q := 19) X (c_X6_length hG hT7) mX6_length kX8_100 dX8_isEquivalent_16 (by omega) hT7.cell rfl (by decide) (Nat.le_of_ble_eq_true rfl) rfl (fun vq_9 cq_8 hq_7 => ?_)
      obtain ⟨rfl, hq_7⟩ := hq_7
      obtain rfl := hq_7.symm
      refine A_if_ne (q := 22) (t := 25) X dX8_isEquivalent_19 (by omega) rfl rfl (fun hb19 => ?_) (fun hb19 => ?_)
      · have hgs : Gd T7.1 := by rcases hg7 with h | h; (exact absurd (by rw [h]; rfl) (show ¬ T7.1.length = 0 by omega)); exact h
        refine A_aload_n (q := 26) X dX8_isEquivalent_25 rfl rfl ?_
        refine A_aload_n (q := 27) X dX8_isEquivalent_26 rfl rfl ?_
        refine A_getf (q := 30) X fX8_16 dX8_isEquivalent_27 (by omega) h0 rfl rfl ?_
        refine A_aload_n (q := 31) X dX8_isEquivalent_30 rfl rfl ?_
        refine A_getf (q := 34) X fX8_10 dX8_isEquivalent_31 (by omega) h0 rfl rfl ?_
        refine A_V2i (q := 37) X (c_X8_normaliseInto hG hN h0 hT3 hT1 z1 hgd hRd (by omega) (by omega) (by omega) (by omega) (by omega) (by omega) (by omega) (by omega) (by omega)) mX8_normaliseInto kX8_179 dX8_isEquivalent_34 (by omega) h0 rfl (by decide) (Nat.le_of_ble_eq_true rfl) rfl (fun vq_12 cq_11 hq_10 => ?_)
        obtain ⟨rfl, hT_13, hRd_14, hf_15⟩ := hq_10
        refine A_beq (q := 40) (t := 52) X dX8_isEquivalent_37 rfl rfl (fun hb37 => ?_) (fun hb37 => ?_)
        · refine A_bipush (q := 54) X dX8_isEquivalent_52 (by decide) rfl ?_
          have e9 : fEquiv k (T1.1, x, hs, T7.1, T9.1, o, sd) = (-9, (T1.1, x, hs, T7.1, T9.1, o, sd)) := by unfold fEquiv; rw [es]; dsimp only; rw [if_pos (by omega), if_neg (by omega), if_neg (fun h => by first | exact hb37 h.1 | exact hb49 h.2)]
          exact A_ireturn X dX8_isEquivalent_54 ⟨by rw [e9], by rw [e9]; exact ⟨hN, ((hf_15 _ (by omega) (by omega) (by omega)).trans h0), ⟨_, (hT1.keep ((hf_15 1 (by omega) (by omega) (by omega)).trans rfl) ((hf_15 2 (by omega) (by omega) (by omega)).trans rfl)), rfl, z1⟩, hgd, ⟨_, hT_13⟩, ⟨_, (hT5.keep ((hf_15 5 (by omega) (by omega) (by omega)).trans rfl) ((hf_15 6 (by omega) (by omega) (by omega)).trans rfl))⟩, ⟨_, (hT7.keep ((hf_15 7 (by omega) (by omega) (by omega)).trans rfl) ((hf_15 8 (by omega) (by omega) (by omega)).trans rfl)), rfl, z7⟩, hg7, ⟨_, (hT9.keep ((hf_15 9 (by omega) (by omega) (by omega)).trans rfl) ((hf_15 10 (by omega) (by omega) (by omega)).trans rfl)), rfl, z9⟩, hg9, ⟨_, _, _, (hO11.keep ((hf_15 11 (by omega) (by omega) (by omega)).trans rfl) ((hf_15 12 (by omega) (by omega) (by omega)).trans rfl) ((hf_15 13 (by omega) (by omega) (by omega)).trans rfl))⟩, hRd_14, ⟨_, _, _, _, _, (hM.keep (fun k r0 r1 => ((hf_15 k (by omega) (by omega) (by omega)).trans rfl)))⟩, (hH.keep (fun k r0 => ((hf_15 k (by omega) (by omega) (by omega)).trans rfl))), (hX.keep ((hf_15 36 (by omega) (by omega) (by omega)).trans rfl) ((hf_15 37 (by omega) (by omega) (by omega)).trans rfl)), (hB.keep ((hf_15 38 (by omega) (by omega) (by omega)).trans rfl) ((hf_15 39 (by omega) (by omega) (by omega)).trans rfl) ((hf_15 40 (by omega) (by omega) (by omega)).trans rfl))⟩, (fun k n0 => ((hf_15 k (by omega) (by omega) (by omega)).trans rfl))⟩
        · refine A_aload_n (q := 41) X dX8_isEquivalent_40 rfl rfl ?_
          refine A_aload_n (q := 42) X dX8_isEquivalent_41 rfl rfl ?_
          refine A_getf (q := 45) X fX8_19 dX8_isEquivalent_42 (by omega) ((hf_15 _ (by omega) (by omega) (by omega)).trans h0) rfl rfl ?_
          refine A_aload_n (q := 46) X dX8_isEquivalent_45 rfl rfl ?_
          refine A_V2i (q := 49) X (c_X8_normaliseInto hG hN ((hf_15 _ (by omega) (by omega) (by omega)).trans h0) (hT5.keep ((hf_15 5 (by omega) (by omega) (by omega)).trans rfl) ((hf_15 6 (by omega) (by omega) (by omega)).trans rfl)) (hT7.keep ((hf_15 7 (by omega) (by omega) (by omega)).trans rfl) ((hf_15 8 (by omega) (by omega) (by omega)).trans rfl)) z7 hgs hRd_14 (by omega) (by omega) (by omega) (by omega) (by omega) (by omega) (by omega) (by omega) (by omega)) mX8_normaliseInto kX8_179 dX8_isEquivalent_46 (by omega) ((hf_15 _ (by omega) (by omega) (by omega)).trans h0) rfl (by decide) (Nat.le_of_ble_eq_true rfl) rfl (fun vq_18 cq_17 hq_16 => ?_)
          obtain ⟨rfl, hT_19, hRd_20, hf_21⟩ := hq_16
          refine A_bne (q := 52) (t := 55) X dX8_isEquivalent_49 rfl rfl (fun hb49 => ?_) (fun hb49 => ?_)
          · refine A_aload_n (q := 56) X dX8_isEquivalent_55 rfl rfl ?_
            refine A_getf (q := 59) X fX8_16 dX8_isEquivalent_56 (by omega) ((hf_21 _ (by omega) (by omega) (by omega)).trans ((hf_15 _ (by omega) (by omega) (by omega)).trans h0)) rfl rfl ?_
            refine A_aload_n (q := 60) X dX8_isEquivalent_59 rfl rfl ?_
            refine A_getf (q := 63) X fX8_19 dX8_isEquivalent_60 (by omega) ((hf_21 _ (by omega) (by omega) (by omega)).trans ((hf_15 _ (by omega) (by omega) (by omega)).trans h0)) rfl rfl ?_
            refine A_V1i (q := 66) X (c_X6_hasSameTokens hG (hT_13.keep ((hf_21 3 (by omega) (by omega) (by omega)).trans rfl) ((hf_21 4 (by omega) (by omega) (by omega)).trans rfl)) hT_19 (fun k hk => by have := (Gd_run 0 200 _ hgd).at hk; show rg ((nrm T1.1).getD k 0); unfold nrm; omega) (fun k hk => by have := (Gd_run 0 200 _ hgs).at hk; show rg ((nrm T7.1).getD k 0); unfold nrm; omega)) mX6_hasSameTokens kX8_183 dX8_isEquivalent_63 (by omega) (hT_13.keep ((hf_21 3 (by omega) (by omega) (by omega)).trans rfl) ((hf_21 4 (by omega) (by omega) (by omega)).trans rfl)).cell rfl (by decide) (Nat.le_of_ble_eq_true rfl) rfl (fun vq_24 cq_23 hq_22 => ?_)
            obtain ⟨rfl, hq_22⟩ := hq_22
            obtain rfl := hq_22.symm
            refine A_beq (q := 69) (t := 73) X dX8_isEquivalent_66 rfl rfl (fun hb66 => ?_) (fun hb66 => ?_)
            · refine A_iconst (q := 74) X dX8_isEquivalent_73 rfl ?_
              have e9 : fEquiv k (T1.1, x, hs, T7.1, T9.1, o, sd) = (0, (T1.1, x, hs, T7.1, T9.1, o, sd)) := by unfold fEquiv; rw [es]; dsimp only; rw [if_pos (by omega), if_neg (by omega), if_pos ⟨hb37, hb49⟩, if_neg hb66]
              exact A_ireturn X dX8_isEquivalent_74 ⟨by rw [e9], by rw [e9]; exact ⟨hN, ((hf_21 _ (by omega) (by omega) (by omega)).trans ((hf_15 _ (by omega) (by omega) (by omega)).trans h0)), ⟨_, (hT1.keep ((hf_21 1 (by omega) (by omega) (by omega)).trans ((hf_15 1 (by omega) (by omega) (by omega)).trans rfl)) ((hf_21 2 (by omega) (by omega) (by omega)).trans ((hf_15 2 (by omega) (by omega) (by omega)).trans rfl))), rfl, z1⟩, hgd, ⟨_, (hT_13.keep ((hf_21 3 (by omega) (by omega) (by omega)).trans rfl) ((hf_21 4 (by omega) (by omega) (by omega)).trans rfl))⟩, ⟨_, hT_19⟩, ⟨_, (hT7.keep ((hf_21 7 (by omega) (by omega) (by omega)).trans ((hf_15 7 (by omega) (by omega) (by omega)).trans rfl)) ((hf_21 8 (by omega) (by omega) (by omega)).trans ((hf_15 8 (by omega) (by omega) (by omega)).trans rfl))), rfl, z7⟩, hg7, ⟨_, (hT9.keep ((hf_21 9 (by omega) (by omega) (by omega)).trans ((hf_15 9 (by omega) (by omega) (by omega)).trans rfl)) ((hf_21 10 (by omega) (by omega) (by omega)).trans ((hf_15 10 (by omega) (by omega) (by omega)).trans rfl))), rfl, z9⟩, hg9, ⟨_, _, _, (hO11.keep ((hf_21 11 (by omega) (by omega) (by omega)).trans ((hf_15 11 (by omega) (by omega) (by omega)).trans rfl)) ((hf_21 12 (by omega) (by omega) (by omega)).trans ((hf_15 12 (by omega) (by omega) (by omega)).trans rfl)) ((hf_21 13 (by omega) (by omega) (by omega)).trans ((hf_15 13 (by omega) (by omega) (by omega)).trans rfl)))⟩, hRd_20, ⟨_, _, _, _, _, (hM.keep (fun k r0 r1 => ((hf_21 k (by omega) (by omega) (by omega)).trans ((hf_15 k (by omega) (by omega) (by omega)).trans rfl))))⟩, (hH.keep (fun k r0 => ((hf_21 k (by omega) (by omega) (by omega)).trans ((hf_15 k (by omega) (by omega) (by omega)).trans rfl)))), (hX.keep ((hf_21 36 (by omega) (by omega) (by omega)).trans ((hf_15 36 (by omega) (by omega) (by omega)).trans rfl)) ((hf_21 37 (by omega) (by omega) (by omega)).trans ((hf_15 37 (by omega) (by omega) (by omega)).trans rfl))), (hB.keep ((hf_21 38 (by omega) (by omega) (by omega)).trans ((hf_15 38 (by omega) (by omega) (by omega)).trans rfl)) ((hf_21 39 (by omega) (by omega) (by omega)).trans ((hf_15 39 (by omega) (by omega) (by omega)).trans rfl)) ((hf_21 40 (by omega) (by omega) (by omega)).trans ((hf_15 40 (by omega) (by omega) (by omega)).trans rfl)))⟩, (fun k n0 => ((hf_21 k (by omega) (by omega) (by omega)).trans ((hf_15 k (by omega) (by omega) (by omega)).trans rfl)))⟩
            · refine A_iconst (q := 70) X dX8_isEquivalent_69 rfl ?_
              refine A_goto (q := 74) X dX8_isEquivalent_70 rfl ?_
              have e9 : fEquiv k (T1.1, x, hs, T7.1, T9.1, o, sd) = (1, (T1.1, x, hs, T7.1, T9.1, o, sd)) := by unfold fEquiv; rw [es]; dsimp only; rw [if_pos (by omega), if_neg (by omega), if_pos ⟨hb37, hb49⟩, if_pos hb66]
              exact A_ireturn X dX8_isEquivalent_74 ⟨by rw [e9], by rw [e9]; exact ⟨hN, ((hf_21 _ (by omega) (by omega) (by omega)).trans ((hf_15 _ (by omega) (by omega) (by omega)).trans h0)), ⟨_, (hT1.keep ((hf_21 1 (by omega) (by omega) (by omega)).trans ((hf_15 1 (by omega) (by omega) (by omega)).trans rfl)) ((hf_21 2 (by omega) (by omega) (by omega)).trans ((hf_15 2 (by omega) (by omega) (by omega)).trans rfl))), rfl, z1⟩, hgd, ⟨_, (hT_13.keep ((hf_21 3 (by omega) (by omega) (by omega)).trans rfl) ((hf_21 4 (by omega) (by omega) (by omega)).trans rfl))⟩, ⟨_, hT_19⟩, ⟨_, (hT7.keep ((hf_21 7 (by omega) (by omega) (by omega)).trans ((hf_15 7 (by omega) (by omega) (by omega)).trans rfl)) ((hf_21 8 (by omega) (by omega) (by omega)).trans ((hf_15 8 (by omega) (by omega) (by omega)).trans rfl))), rfl, z7⟩, hg7, ⟨_, (hT9.keep ((hf_21 9 (by omega) (by omega) (by omega)).trans ((hf_15 9 (by omega) (by omega) (by omega)).trans rfl)) ((hf_21 10 (by omega) (by omega) (by omega)).trans ((hf_15 10 (by omega) (by omega) (by omega)).trans rfl))), rfl, z9⟩, hg9, ⟨_, _, _, (hO11.keep ((hf_21 11 (by omega) (by omega) (by omega)).trans ((hf_15 11 (by omega) (by omega) (by omega)).trans rfl)) ((hf_21 12 (by omega) (by omega) (by omega)).trans ((hf_15 12 (by omega) (by omega) (by omega)).trans rfl)) ((hf_21 13 (by omega) (by omega) (by omega)).trans ((hf_15 13 (by omega) (by omega) (by omega)).trans rfl)))⟩, hRd_20, ⟨_, _, _, _, _, (hM.keep (fun k r0 r1 => ((hf_21 k (by omega) (by omega) (by omega)).trans ((hf_15 k (by omega) (by omega) (by omega)).trans rfl))))⟩, (hH.keep (fun k r0 => ((hf_21 k (by omega) (by omega) (by omega)).trans ((hf_15 k (by omega) (by omega) (by omega)).trans rfl)))), (hX.keep ((hf_21 36 (by omega) (by omega) (by omega)).trans ((hf_15 36 (by omega) (by omega) (by omega)).trans rfl)) ((hf_21 37 (by omega) (by omega) (by omega)).trans ((hf_15 37 (by omega) (by omega) (by omega)).trans rfl))), (hB.keep ((hf_21 38 (by omega) (by omega) (by omega)).trans ((hf_15 38 (by omega) (by omega) (by omega)).trans rfl)) ((hf_21 39 (by omega) (by omega) (by omega)).trans ((hf_15 39 (by omega) (by omega) (by omega)).trans rfl)) ((hf_21 40 (by omega) (by omega) (by omega)).trans ((hf_15 40 (by omega) (by omega) (by omega)).trans rfl)))⟩, (fun k n0 => ((hf_21 k (by omega) (by omega) (by omega)).trans ((hf_15 k (by omega) (by omega) (by omega)).trans rfl)))⟩
          · refine A_bipush (q := 54) X dX8_isEquivalent_52 (by decide) rfl ?_
            have e9 : fEquiv k (T1.1, x, hs, T7.1, T9.1, o, sd) = (-9, (T1.1, x, hs, T7.1, T9.1, o, sd)) := by unfold fEquiv; rw [es]; dsimp only; rw [if_pos (by omega), if_neg (by omega), if_neg (fun h => by first | exact hb37 h.1 | exact hb49 h.2)]
            exact A_ireturn X dX8_isEquivalent_54 ⟨by rw [e9], by rw [e9]; exact ⟨hN, ((hf_21 _ (by omega) (by omega) (by omega)).trans ((hf_15 _ (by omega) (by omega) (by omega)).trans h0)), ⟨_, (hT1.keep ((hf_21 1 (by omega) (by omega) (by omega)).trans ((hf_15 1 (by omega) (by omega) (by omega)).trans rfl)) ((hf_21 2 (by omega) (by omega) (by omega)).trans ((hf_15 2 (by omega) (by omega) (by omega)).trans rfl))), rfl, z1⟩, hgd, ⟨_, (hT_13.keep ((hf_21 3 (by omega) (by omega) (by omega)).trans rfl) ((hf_21 4 (by omega) (by omega) (by omega)).trans rfl))⟩, ⟨_, hT_19⟩, ⟨_, (hT7.keep ((hf_21 7 (by omega) (by omega) (by omega)).trans ((hf_15 7 (by omega) (by omega) (by omega)).trans rfl)) ((hf_21 8 (by omega) (by omega) (by omega)).trans ((hf_15 8 (by omega) (by omega) (by omega)).trans rfl))), rfl, z7⟩, hg7, ⟨_, (hT9.keep ((hf_21 9 (by omega) (by omega) (by omega)).trans ((hf_15 9 (by omega) (by omega) (by omega)).trans rfl)) ((hf_21 10 (by omega) (by omega) (by omega)).trans ((hf_15 10 (by omega) (by omega) (by omega)).trans rfl))), rfl, z9⟩, hg9, ⟨_, _, _, (hO11.keep ((hf_21 11 (by omega) (by omega) (by omega)).trans ((hf_15 11 (by omega) (by omega) (by omega)).trans rfl)) ((hf_21 12 (by omega) (by omega) (by omega)).trans ((hf_15 12 (by omega) (by omega) (by omega)).trans rfl)) ((hf_21 13 (by omega) (by omega) (by omega)).trans ((hf_15 13 (by omega) (by omega) (by omega)).trans rfl)))⟩, hRd_20, ⟨_, _, _, _, _, (hM.keep (fun k r0 r1 => ((hf_21 k (by omega) (by omega) (by omega)).trans ((hf_15 k (by omega) (by omega) (by omega)).trans rfl))))⟩, (hH.keep (fun k r0 => ((hf_21 k (by omega) (by omega) (by omega)).trans ((hf_15 k (by omega) (by omega) (by omega)).trans rfl)))), (hX.keep ((hf_21 36 (by omega) (by omega) (by omega)).trans ((hf_15 36 (by omega) (by omega) (by omega)).trans rfl)) ((hf_21 37 (by omega) (by omega) (by omega)).trans ((hf_15 37 (by omega) (by omega) (by omega)).trans rfl))), (hB.keep ((hf_21 38 (by omega) (by omega) (by omega)).trans ((hf_15 38 (by omega) (by omega) (by omega)).trans rfl)) ((hf_21 39 (by omega) (by omega) (by omega)).trans ((hf_15 39 (by omega) (by omega) (by omega)).trans rfl)) ((hf_21 40 (by omega) (by omega) (by omega)).trans ((hf_15 40 (by omega) (by omega) (by omega)).trans rfl)))⟩, (fun k n0 => ((hf_21 k (by omega) (by omega) (by omega)).trans ((hf_15 k (by omega) (by omega) (by omega)).trans rfl)))⟩
      · refine A_bipush (q := 24) X dX8_isEquivalent_22 (by decide) rfl ?_
        have e9 : fEquiv k (T1.1, x, hs, T7.1, T9.1, o, sd) = (-3, (T1.1, x, hs, T7.1, T9.1, o, sd)) := by unfold fEquiv; rw [es]; dsimp only; rw [if_pos (by omega), if_pos (by omega)]
        exact A_ireturn X dX8_isEquivalent_24 ⟨by rw [e9], by rw [e9]; exact ⟨hN, h0, ⟨_, hT1, rfl, z1⟩, hgd, ⟨_, hT3⟩, ⟨_, hT5⟩, ⟨_, hT7, rfl, z7⟩, hg7, ⟨_, hT9, rfl, z9⟩, hg9, ⟨_, _, _, hO11⟩, hRd, ⟨_, _, _, _, _, hM⟩, hH, hX, hB⟩, (fun k n0 => rfl)⟩
    · rw [if_neg hk0] at hqs
      subst hqs
      have es : sltS (T1.1, x, hs, T7.1, T9.1, o, sd) k = T9.1 := by unfold sltS; rw [if_neg hk0]
      refine A_astore_n (q := 15) X dX8_isEquivalent_14 (by decide) (okP_s rfl rfl) rfl ?_
      refine A_aload_n (q := 16) X dX8_isEquivalent_15 rfl rfl ?_
      refine A_V0i (q := 19) X (c_X6_length hG hT9) mX6_length kX8_100 dX8_isEquivalent_16 (by omega) hT9.cell rfl (by decide) (Nat.le_of_ble_eq_true rfl) rfl (fun vq_27 cq_26 hq_25 => ?_)
      obtain ⟨rfl, hq_25⟩ := hq_25
      obtain rfl := hq_25.symm
      refine A_if_ne (q := 22) (t := 25) X dX8_isEquivalent_19 (by omega) rfl rfl (fun hb19 => ?_) (fun hb19 => ?_)
      · have hgs : Gd T9.1 := by rcases hg9 with h | h; (exact absurd (by rw [h]; rfl) (show ¬ T9.1.length = 0 by omega)); exact h
        refine A_aload_n (q := 26) X dX8_isEquivalent_25 rfl rfl ?_
        refine A_aload_n (q := 27) X dX8_isEquivalent_26 rfl rfl ?_
        refine A_getf (q := 30) X fX8_16 dX8_isEquivalent_27 (by omega) h0 rfl rfl ?_
        refine A_aload_n (q := 31) X dX8_isEquivalent_30 rfl rfl ?_
        refine A_getf (q := 34) X fX8_10 dX8_isEquivalent_31 (by omega) h0 rfl rfl ?_
        refine A_V2i (q := 37) X (c_X8_normaliseInto hG hN h0 hT3 hT1 z1 hgd hRd (by omega) (by omega) (by omega) (by omega) (by omega) (by omega) (by omega) (by omega) (by omega)) mX8_normaliseInto kX8_179 dX8_isEquivalent_34 (by omega) h0 rfl (by decide) (Nat.le_of_ble_eq_true rfl) rfl (fun vq_30 cq_29 hq_28 => ?_)
        obtain ⟨rfl, hT_31, hRd_32, hf_33⟩ := hq_28
        refine A_beq (q := 40) (t := 52) X dX8_isEquivalent_37 rfl rfl (fun hb37 => ?_) (fun hb37 => ?_)
        · refine A_bipush (q := 54) X dX8_isEquivalent_52 (by decide) rfl ?_
          have e9 : fEquiv k (T1.1, x, hs, T7.1, T9.1, o, sd) = (-9, (T1.1, x, hs, T7.1, T9.1, o, sd)) := by unfold fEquiv; rw [es]; dsimp only; rw [if_pos (by omega), if_neg (by omega), if_neg (fun h => by first | exact hb37 h.1 | exact hb49 h.2)]
          exact A_ireturn X dX8_isEquivalent_54 ⟨by rw [e9], by rw [e9]; exact ⟨hN, ((hf_33 _ (by omega) (by omega) (by omega)).trans h0), ⟨_, (hT1.keep ((hf_33 1 (by omega) (by omega) (by omega)).trans rfl) ((hf_33 2 (by omega) (by omega) (by omega)).trans rfl)), rfl, z1⟩, hgd, ⟨_, hT_31⟩, ⟨_, (hT5.keep ((hf_33 5 (by omega) (by omega) (by omega)).trans rfl) ((hf_33 6 (by omega) (by omega) (by omega)).trans rfl))⟩, ⟨_, (hT7.keep ((hf_33 7 (by omega) (by omega) (by omega)).trans rfl) ((hf_33 8 (by omega) (by omega) (by omega)).trans rfl)), rfl, z7⟩, hg7, ⟨_, (hT9.keep ((hf_33 9 (by omega) (by omega) (by omega)).trans rfl) ((hf_33 10 (by omega) (by omega) (by omega)).trans rfl)), rfl, z9⟩, hg9, ⟨_, _, _, (hO11.keep ((hf_33 11 (by omega) (by omega) (by omega)).trans rfl) ((hf_33 12 (by omega) (by omega) (by omega)).trans rfl) ((hf_33 13 (by omega) (by omega) (by omega)).trans rfl))⟩, hRd_32, ⟨_, _, _, _, _, (hM.keep (fun k r0 r1 => ((hf_33 k (by omega) (by omega) (by omega)).trans rfl)))⟩, (hH.keep (fun k r0 => ((hf_33 k (by omega) (by omega) (by omega)).trans rfl))), (hX.keep ((hf_33 36 (by omega) (by omega) (by omega)).trans rfl) ((hf_33 37 (by omega) (by omega) (by omega)).trans rfl)), (hB.keep ((hf_33 38 (by omega) (by omega) (by omega)).trans rfl) ((hf_33 39 (by omega) (by omega) (by omega)).trans rfl) ((hf_33 40 (by omega) (by omega) (by omega)).trans rfl))⟩, (fun k n0 => ((hf_33 k (by omega) (by omega) (by omega)).trans rfl))⟩
        · refine A_aload_n (q := 41) X dX8_isEquivalent_40 rfl rfl ?_
          refine A_aload_n (q := 42) X dX8_isEquivalent_41 rfl rfl ?_
          refine A_getf (q := 45) X fX8_19 dX8_isEquivalent_42 (by omega) ((hf_33 _ (by omega) (by omega) (by omega)).trans h0) rfl rfl ?_
          refine A_aload_n (q := 46) X dX8_isEquivalent_45 rfl rfl ?_
          refine A_V2i (q := 49) X (c_X8_normaliseInto hG hN ((hf_33 _ (by omega) (by omega) (by omega)).trans h0) (hT5.keep ((hf_33 5 (by omega) (by omega) (by omega)).trans rfl) ((hf_33 6 (by omega) (by omega) (by omega)).trans rfl)) (hT9.keep ((hf_33 9 (by omega) (by omega) (by omega)).trans rfl) ((hf_33 10 (by omega) (by omega) (by omega)).trans rfl)) z9 hgs hRd_32 (by omega) (by omega) (by omega) (by omega) (by omega) (by omega) (by omega) (by omega) (by omega)) mX8_normaliseInto kX8_179 dX8_isEquivalent_46 (by omega) ((hf_33 _ (by omega) (by omega) (by omega)).trans h0) rfl (by decide) (Nat.le_of_ble_eq_true rfl) rfl (fun vq_36 cq_35 hq_34 => ?_)
          obtain ⟨rfl, hT_37, hRd_38, hf_39⟩ := hq_34
          refine A_bne (q := 52) (t := 55) X dX8_isEquivalent_49 rfl rfl (fun hb49 => ?_) (fun hb49 => ?_)
          · refine A_aload_n (q := 56) X dX8_isEquivalent_55 rfl rfl ?_
            refine A_getf (q := 59) X fX8_16 dX8_isEquivalent_56 (by omega) ((hf_39 _ (by omega) (by omega) (by omega)).trans ((hf_33 _ (by omega) (by omega) (by omega)).trans h0)) rfl rfl ?_
            refine A_aload_n (q := 60) X dX8_isEquivalent_59 rfl rfl ?_
            refine A_getf (q := 63) X fX8_19 dX8_isEquivalent_60 (by omega) ((hf_39 _ (by omega) (by omega) (by omega)).trans ((hf_33 _ (by omega) (by omega) (by omega)).trans h0)) rfl rfl ?_
            refine A_V1i (q := 66) X (c_X6_hasSameTokens hG (hT_31.keep ((hf_39 3 (by omega) (by omega) (by omega)).trans rfl) ((hf_39 4 (by omega) (by omega) (by omega)).trans rfl)) hT_37 (fun k hk => by have := (Gd_run 0 200 _ hgd).at hk; show rg ((nrm T1.1).getD k 0); unfold nrm; omega) (fun k hk => by have := (Gd_run 0 200 _ hgs).at hk; show rg ((nrm T9.1).getD k 0); unfold nrm; omega)) mX6_hasSameTokens kX8_183 dX8_isEquivalent_63 (by omega) (hT_31.keep ((hf_39 3 (by omega) (by omega) (by omega)).trans rfl) ((hf_39 4 (by omega) (by omega) (by omega)).trans rfl)).cell rfl (by decide) (Nat.le_of_ble_eq_true rfl) rfl (fun vq_42 cq_41 hq_40 => ?_)
            obtain ⟨rfl, hq_40⟩ := hq_40
            obtain rfl := hq_40.symm
            refine A_beq (q := 69) (t := 73) X dX8_isEquivalent_66 rfl rfl (fun hb66 => ?_) (fun hb66 => ?_)
            · refine A_iconst (q := 74) X dX8_isEquivalent_73 rfl ?_
              have e9 : fEquiv k (T1.1, x, hs, T7.1, T9.1, o, sd) = (0, (T1.1, x, hs, T7.1, T9.1, o, sd)) := by unfold fEquiv; rw [es]; dsimp only; rw [if_pos (by omega), if_neg (by omega), if_pos ⟨hb37, hb49⟩, if_neg hb66]
              exact A_ireturn X dX8_isEquivalent_74 ⟨by rw [e9], by rw [e9]; exact ⟨hN, ((hf_39 _ (by omega) (by omega) (by omega)).trans ((hf_33 _ (by omega) (by omega) (by omega)).trans h0)), ⟨_, (hT1.keep ((hf_39 1 (by omega) (by omega) (by omega)).trans ((hf_33 1 (by omega) (by omega) (by omega)).trans rfl)) ((hf_39 2 (by omega) (by omega) (by omega)).trans ((hf_33 2 (by omega) (by omega) (by omega)).trans rfl))), rfl, z1⟩, hgd, ⟨_, (hT_31.keep ((hf_39 3 (by omega) (by omega) (by omega)).trans rfl) ((hf_39 4 (by omega) (by omega) (by omega)).trans rfl))⟩, ⟨_, hT_37⟩, ⟨_, (hT7.keep ((hf_39 7 (by omega) (by omega) (by omega)).trans ((hf_33 7 (by omega) (by omega) (by omega)).trans rfl)) ((hf_39 8 (by omega) (by omega) (by omega)).trans ((hf_33 8 (by omega) (by omega) (by omega)).trans rfl))), rfl, z7⟩, hg7, ⟨_, (hT9.keep ((hf_39 9 (by omega) (by omega) (by omega)).trans ((hf_33 9 (by omega) (by omega) (by omega)).trans rfl)) ((hf_39 10 (by omega) (by omega) (by omega)).trans ((hf_33 10 (by omega) (by omega) (by omega)).trans rfl))), rfl, z9⟩, hg9, ⟨_, _, _, (hO11.keep ((hf_39 11 (by omega) (by omega) (by omega)).trans ((hf_33 11 (by omega) (by omega) (by omega)).trans rfl)) ((hf_39 12 (by omega) (by omega) (by omega)).trans ((hf_33 12 (by omega) (by omega) (by omega)).trans rfl)) ((hf_39 13 (by omega) (by omega) (by omega)).trans ((hf_33 13 (by omega) (by omega) (by omega)).trans rfl)))⟩, hRd_38, ⟨_, _, _, _, _, (hM.keep (fun k r0 r1 => ((hf_39 k (by omega) (by omega) (by omega)).trans ((hf_33 k (by omega) (by omega) (by omega)).trans rfl))))⟩, (hH.keep (fun k r0 => ((hf_39 k (by omega) (by omega) (by omega)).trans ((hf_33 k (by omega) (by omega) (by omega)).trans rfl)))), (hX.keep ((hf_39 36 (by omega) (by omega) (by omega)).trans ((hf_33 36 (by omega) (by omega) (by omega)).trans rfl)) ((hf_39 37 (by omega) (by omega) (by omega)).trans ((hf_33 37 (by omega) (by omega) (by omega)).trans rfl))), (hB.keep ((hf_39 38 (by omega) (by omega) (by omega)).trans ((hf_33 38 (by omega) (by omega) (by omega)).trans rfl)) ((hf_39 39 (by omega) (by omega) (by omega)).trans ((hf_33 39 (by omega) (by omega) (by omega)).trans rfl)) ((hf_39 40 (by omega) (by omega) (by omega)).trans ((hf_33 40 (by omega) (by omega) (by omega)).trans rfl)))⟩, (fun k n0 => ((hf_39 k (by omega) (by omega) (by omega)).trans ((hf_33 k (by omega) (by omega) (by omega)).trans rfl)))⟩
            · refine A_iconst (q := 70) X dX8_isEquivalent_69 rfl ?_
              refine A_goto (q := 74) X dX8_isEquivalent_70 rfl ?_
              have e9 : fEquiv k (T1.1, x, hs, T7.1, T9.1, o, sd) = (1, (T1.1, x, hs, T7.1, T9.1, o, sd)) := by unfold fEquiv; rw [es]; dsimp only; rw [if_pos (by omega), if_neg (by omega), if_pos ⟨hb37, hb49⟩, if_pos hb66]
              exact A_ireturn X dX8_isEquivalent_74 ⟨by rw [e9], by rw [e9]; exact ⟨hN, ((hf_39 _ (by omega) (by omega) (by omega)).trans ((hf_33 _ (by omega) (by omega) (by omega)).trans h0)), ⟨_, (hT1.keep ((hf_39 1 (by omega) (by omega) (by omega)).trans ((hf_33 1 (by omega) (by omega) (by omega)).trans rfl)) ((hf_39 2 (by omega) (by omega) (by omega)).trans ((hf_33 2 (by omega) (by omega) (by omega)).trans rfl))), rfl, z1⟩, hgd, ⟨_, (hT_31.keep ((hf_39 3 (by omega) (by omega) (by omega)).trans rfl) ((hf_39 4 (by omega) (by omega) (by omega)).trans rfl))⟩, ⟨_, hT_37⟩, ⟨_, (hT7.keep ((hf_39 7 (by omega) (by omega) (by omega)).trans ((hf_33 7 (by omega) (by omega) (by omega)).trans rfl)) ((hf_39 8 (by omega) (by omega) (by omega)).trans ((hf_33 8 (by omega) (by omega) (by omega)).trans rfl))), rfl, z7⟩, hg7, ⟨_, (hT9.keep ((hf_39 9 (by omega) (by omega) (by omega)).trans ((hf_33 9 (by omega) (by omega) (by omega)).trans rfl)) ((hf_39 10 (by omega) (by omega) (by omega)).trans ((hf_33 10 (by omega) (by omega) (by omega)).trans rfl))), rfl, z9⟩, hg9, ⟨_, _, _, (hO11.keep ((hf_39 11 (by omega) (by omega) (by omega)).trans ((hf_33 11 (by omega) (by omega) (by omega)).trans rfl)) ((hf_39 12 (by omega) (by omega) (by omega)).trans ((hf_33 12 (by omega) (by omega) (by omega)).trans rfl)) ((hf_39 13 (by omega) (by omega) (by omega)).trans ((hf_33 13 (by omega) (by omega) (by omega)).trans rfl)))⟩, hRd_38, ⟨_, _, _, _, _, (hM.keep (fun k r0 r1 => ((hf_39 k (by omega) (by omega) (by omega)).trans ((hf_33 k (by omega) (by omega) (by omega)).trans rfl))))⟩, (hH.keep (fun k r0 => ((hf_39 k (by omega) (by omega) (by omega)).trans ((hf_33 k (by omega) (by omega) (by omega)).trans rfl)))), (hX.keep ((hf_39 36 (by omega) (by omega) (by omega)).trans ((hf_33 36 (by omega) (by omega) (by omega)).trans rfl)) ((hf_39 37 (by omega) (by omega) (by omega)).trans ((hf_33 37 (by omega) (by omega) (by omega)).trans rfl))), (hB.keep ((hf_39 38 (by omega) (by omega) (by omega)).trans ((hf_33 38 (by omega) (by omega) (by omega)).trans rfl)) ((hf_39 39 (by omega) (by omega) (by omega)).trans ((hf_33 39 (by omega) (by omega) (by omega)).trans rfl)) ((hf_39 40 (by omega) (by omega) (by omega)).trans ((hf_33 40 (by omega) (by omega) (by omega)).trans rfl)))⟩, (fun k n0 => ((hf_39 k (by omega) (by omega) (by omega)).trans ((hf_33 k (by omega) (by omega) (by omega)).trans rfl)))⟩
          · refine A_bipush (q := 54) X dX8_isEquivalent_52 (by decide) rfl ?_
            have e9 : fEquiv k (T1.1, x, hs, T7.1, T9.1, o, sd) = (-9, (T1.1, x, hs, T7.1, T9.1, o, sd)) := by unfold fEquiv; rw [es]; dsimp only; rw [if_pos (by omega), if_neg (by omega), if_neg (fun h => by first | exact hb37 h.1 | exact hb49 h.2)]
            exact A_ireturn X dX8_isEquivalent_54 ⟨by rw [e9], by rw [e9]; exact ⟨hN, ((hf_39 _ (by omega) (by omega) (by omega)).trans ((hf_33 _ (by omega) (by omega) (by omega)).trans h0)), ⟨_, (hT1.keep ((hf_39 1 (by omega) (by omega) (by omega)).trans ((hf_33 1 (by omega) (by omega) (by omega)).trans rfl)) ((hf_39 2 (by omega) (by omega) (by omega)).trans ((hf_33 2 (by omega) (by omega) (by omega)).trans rfl))), rfl, z1⟩, hgd, ⟨_, (hT_31.keep ((hf_39 3 (by omega) (by omega) (by omega)).trans rfl) ((hf_39 4 (by omega) (by omega) (by omega)).trans rfl))⟩, ⟨_, hT_37⟩, ⟨_, (hT7.keep ((hf_39 7 (by omega) (by omega) (by omega)).trans ((hf_33 7 (by omega) (by omega) (by omega)).trans rfl)) ((hf_39 8 (by omega) (by omega) (by omega)).trans ((hf_33 8 (by omega) (by omega) (by omega)).trans rfl))), rfl, z7⟩, hg7, ⟨_, (hT9.keep ((hf_39 9 (by omega) (by omega) (by omega)).trans ((hf_33 9 (by omega) (by omega) (by omega)).trans rfl)) ((hf_39 10 (by omega) (by omega) (by omega)).trans ((hf_33 10 (by omega) (by omega) (by omega)).trans rfl))), rfl, z9⟩, hg9, ⟨_, _, _, (hO11.keep ((hf_39 11 (by omega) (by omega) (by omega)).trans ((hf_33 11 (by omega) (by omega) (by omega)).trans rfl)) ((hf_39 12 (by omega) (by omega) (by omega)).trans ((hf_33 12 (by omega) (by omega) (by omega)).trans rfl)) ((hf_39 13 (by omega) (by omega) (by omega)).trans ((hf_33 13 (by omega) (by omega) (by omega)).trans rfl)))⟩, hRd_38, ⟨_, _, _, _, _, (hM.keep (fun k r0 r1 => ((hf_39 k (by omega) (by omega) (by omega)).trans ((hf_33 k (by omega) (by omega) (by omega)).trans rfl))))⟩, (hH.keep (fun k r0 => ((hf_39 k (by omega) (by omega) (by omega)).trans ((hf_33 k (by omega) (by omega) (by omega)).trans rfl)))), (hX.keep ((hf_39 36 (by omega) (by omega) (by omega)).trans ((hf_33 36 (by omega) (by omega) (by omega)).trans rfl)) ((hf_39 37 (by omega) (by omega) (by omega)).trans ((hf_33 37 (by omega) (by omega) (by omega)).trans rfl))), (hB.keep ((hf_39 38 (by omega) (by omega) (by omega)).trans ((hf_33 38 (by omega) (by omega) (by omega)).trans rfl)) ((hf_39 39 (by omega) (by omega) (by omega)).trans ((hf_33 39 (by omega) (by omega) (by omega)).trans rfl)) ((hf_39 40 (by omega) (by omega) (by omega)).trans ((hf_33 40 (by omega) (by omega) (by omega)).trans rfl)))⟩, (fun k n0 => ((hf_39 k (by omega) (by omega) (by omega)).trans ((hf_33 k (by omega) (by omega) (by omega)).trans rfl)))⟩
      · refine A_bipush (q := 24) X dX8_isEquivalent_22 (by decide) rfl ?_
        have e9 : fEquiv k (T1.1, x, hs, T7.1, T9.1, o, sd) = (-3, (T1.1, x, hs, T7.1, T9.1, o, sd)) := by unfold fEquiv; rw [es]; dsimp only; rw [if_pos (by omega), if_pos (by omega)]
        exact A_ireturn X dX8_isEquivalent_24 ⟨by rw [e9], by rw [e9]; exact ⟨hN, h0, ⟨_, hT1, rfl, z1⟩, hgd, ⟨_, hT3⟩, ⟨_, hT5⟩, ⟨_, hT7, rfl, z7⟩, hg7, ⟨_, hT9, rfl, z9⟩, hg9, ⟨_, _, _, hO11⟩, hRd, ⟨_, _, _, _, _, hM⟩, hH, hX, hB⟩, (fun k n0 => rfl)⟩
  · refine A_iconst (q := 8) X dX8_isEquivalent_7 rfl ?_
    have e9 : fEquiv k (T1.1, x, hs, T7.1, T9.1, o, sd) = (-1, (T1.1, x, hs, T7.1, T9.1, o, sd)) := by unfold fEquiv; dsimp only; rw [if_neg (by omega)]
    exact A_ireturn X dX8_isEquivalent_8 ⟨by rw [e9], by rw [e9]; exact ⟨hN, h0, ⟨_, hT1, rfl, z1⟩, hgd, ⟨_, hT3⟩, ⟨_, hT5⟩, ⟨_, hT7, rfl, z7⟩, hg7, ⟨_, hT9, rfl, z9⟩, hg9, ⟨_, _, _, hO11⟩, hRd, ⟨_, _, _, _, _, hM⟩, hH, hX, hB⟩, (fun k n0 => rfl)⟩
set_option maxRecDepth 100000 in
set_option maxHeartbeats 4000000 in
theorem c_X8_machineSteps {l : Launch} {G : Gm} {c : HP} {tm x : List Int} {hs : List (List Int)} {s0 s1 : List Int} {o : List (Int × Int)} {sd : Int64} {r m : Int} (hG : injG G) (hrr : rg r) (hmr : rg m) (hW : WX G c (tm, x, hs, s0, s1, o, sd)) : AMet l G yX8_machineSteps cX8_machineSteps 3 ((some .int)) (rmR 5 142) [.ref (G.1 0), .int (zI r), .int (zI m)] c (Qi (fun v c' => v = zI (fMSteps r m (tm, x, hs, s0, s1, o, sd)).1 ∧ WX G c' (fMSteps r m (tm, x, hs, s0, s1, o, sd)).2 ∧ (∀ k, 55 ≤ k → c' k = c k))) := by
  refine AMet.of (vl := [some (.ref (G.1 0)), some (.int (zI r)), some (.int (zI m))]) (by decide) hG (Nat.le_of_ble_eq_true rfl) rfl ?_
  intro K X
  have X : Fx l G K cX8_machineSteps 3 RX8 ((some .int)) (rmR 5 142) := X
  have hW0 := hW
  obtain ⟨hN, h0, ⟨T1, hT1, eT1, z1⟩, hgd, ⟨T3, hT3⟩, ⟨T5, hT5⟩, ⟨T7, hT7, eT7, z7⟩, hg7, ⟨T9, hT9, eT9, z9⟩, hg9, ⟨n11, E11, D11, hO11⟩, hRd, ⟨P0, Q0, X0, ap0, pk0, hM⟩, hH, hX, hB⟩ := hW
  dsimp only at h0 eT1 hgd eT7 hg7 eT9 hg9 hH hX hB
  subst eT1 eT7 eT9
  obtain ⟨p33, h33⟩ := hH.cell
  have hl1 := hT1.len
  have hl7 := hT7.len
  have hl9 := hT9.len
  have hxl := hX.2.1
  refine A_iload_n (q := 1) X dX8_machineSteps_0 rfl rfl ?_
  refine A_if_lt (q := 4) (t := 18) X dX8_machineSteps_1 (by omega) rfl rfl (fun hb1 => ?_) (fun hb1 => ?_)
  · refine A_bipush (q := 20) X dX8_machineSteps_18 (by decide) rfl ?_
    have e9 : fMSteps r m (T1.1, x, hs, T7.1, T9.1, o, sd) = (-2, (T1.1, x, hs, T7.1, T9.1, o, sd)) := by unfold fMSteps; dsimp only; rw [if_neg (by omega)]
    exact A_ireturn X dX8_machineSteps_20 ⟨by rw [e9], by rw [e9]; exact ⟨hN, h0, ⟨_, hT1, rfl, z1⟩, hgd, ⟨_, hT3⟩, ⟨_, hT5⟩, ⟨_, hT7, rfl, z7⟩, hg7, ⟨_, hT9, rfl, z9⟩, hg9, ⟨_, _, _, hO11⟩, hRd, ⟨_, _, _, _, _, hM⟩, hH, hX, hB⟩, (fun k n0 => rfl)⟩
  · refine A_iload_n (q := 5) X dX8_machineSteps_4 rfl rfl ?_
    refine A_iconst (q := 6) X dX8_machineSteps_5 rfl ?_
    refine A_icmp_ge (q := 9) (t := 18) X dX8_machineSteps_6 (by omega) (by decide) rfl rfl (fun hb6 => ?_) (fun hb6 => ?_)
    · refine A_bipush (q := 20) X dX8_machineSteps_18 (by decide) rfl ?_
      have e9 : fMSteps r m (T1.1, x, hs, T7.1, T9.1, o, sd) = (-2, (T1.1, x, hs, T7.1, T9.1, o, sd)) := by unfold fMSteps; dsimp only; rw [if_neg (by omega)]
      exact A_ireturn X dX8_machineSteps_20 ⟨by rw [e9], by rw [e9]; exact ⟨hN, h0, ⟨_, hT1, rfl, z1⟩, hgd, ⟨_, hT3⟩, ⟨_, hT5⟩, ⟨_, hT7, rfl, z7⟩, hg7, ⟨_, hT9, rfl, z9⟩, hg9, ⟨_, _, _, hO11⟩, hRd, ⟨_, _, _, _, _, hM⟩, hH, hX, hB⟩, (fun k n0 => rfl)⟩
    · refine A_iload_n (q := 10) X dX8_machineSteps_9 rfl rfl ?_
      refine A_if_lt (q := 13) (t := 18) X dX8_machineSteps_10 (by omega) rfl rfl (fun hb10 => ?_) (fun hb10 => ?_)
      · refine A_bipush (q := 20) X dX8_machineSteps_18 (by decide) rfl ?_
        have e9 : fMSteps r m (T1.1, x, hs, T7.1, T9.1, o, sd) = (-2, (T1.1, x, hs, T7.1, T9.1, o, sd)) := by unfold fMSteps; dsimp only; rw [if_neg (by omega)]
        exact A_ireturn X dX8_machineSteps_20 ⟨by rw [e9], by rw [e9]; exact ⟨hN, h0, ⟨_, hT1, rfl, z1⟩, hgd, ⟨_, hT3⟩, ⟨_, hT5⟩, ⟨_, hT7, rfl, z7⟩, hg7, ⟨_, hT9, rfl, z9⟩, hg9, ⟨_, _, _, hO11⟩, hRd, ⟨_, _, _, _, _, hM⟩, hH, hX, hB⟩, (fun k n0 => rfl)⟩
      · refine A_iload_n (q := 14) X dX8_machineSteps_13 rfl rfl ?_
        refine A_iconst (q := 15) X dX8_machineSteps_14 rfl ?_
        refine A_icmp_le (q := 18) (t := 21) X dX8_machineSteps_15 (by omega) (by decide) rfl rfl (fun hb15 => ?_) (fun hb15 => ?_)
        · refine A_aload_n (q := 22) X dX8_machineSteps_21 rfl rfl ?_
          refine A_getf (q := 25) X fX8_45 dX8_machineSteps_22 (by omega) h0 rfl rfl ?_
          refine A_aload_n (q := 26) X dX8_machineSteps_25 rfl rfl ?_
          refine A_getf (q := 29) X fX8_10 dX8_machineSteps_26 (by omega) h0 rfl rfl ?_
          refine A_iload_n (q := 30) X dX8_machineSteps_29 rfl rfl ?_
          refine A_iconst (q := 31) X dX8_machineSteps_30 rfl ?_
          refine A_icmp_ne (q := 34) (t := 38) X dX8_machineSteps_31 (by omega) (by decide) rfl rfl (fun hb31 => ?_) (fun hb31 => ?_)
          · refine A_iconst (q := 39) X dX8_machineSteps_38 rfl ?_
            rw [show zI 0 = zI (if m = 1 then 1 else 0) from zb0 (by omega)]
            refine A_V2i (q := 42) X (c_X2_work (mg := m = 1) (dm := inferInstance) hG hN hM hT1 hgd (by omega) (by omega)) mX2_work kX8_186 dX8_machineSteps_39 (by omega) hM.2.1 rfl (by decide) (Nat.le_of_ble_eq_true rfl) rfl (fun vq_3 cq_2 hq_1 => ?_)
            obtain ⟨rfl, ⟨P2, Q2, X2, ap2, pk2, hM2, hr2⟩, hf2⟩ := hq_1
            refine A_beq (q := 45) (t := 56) X dX8_machineSteps_42 rfl rfl (fun hb42 => ?_) (fun hb42 => ?_)
            · refine A_bipush (q := 58) X dX8_machineSteps_56 (by decide) rfl ?_
              have hno : mrun (m = 1) 600 T1.1 (fun _ => 0) ((T1.1.length : Nat) : Int) = none := by cases h : mrun (m = 1) 600 T1.1 (fun _ => 0) ((T1.1.length : Nat) : Int) with | none => rfl | some v => rw [h] at hb42; exact absurd rfl hb42
              have e9 : fMSteps r m (T1.1, x, hs, T7.1, T9.1, o, sd) = (-9, (T1.1, x, hs, T7.1, T9.1, o, sd)) := by unfold fMSteps; dsimp only; rw [if_pos (by omega), hno]
              exact A_ireturn X dX8_machineSteps_58 ⟨by rw [e9], by rw [e9]; exact ⟨hN, ((hf2 _ (by omega)).trans h0), ⟨_, (hT1.keep ((hf2 1 (by omega)).trans rfl) ((hf2 2 (by omega)).trans rfl)), rfl, z1⟩, hgd, ⟨_, (hT3.keep ((hf2 3 (by omega)).trans rfl) ((hf2 4 (by omega)).trans rfl))⟩, ⟨_, (hT5.keep ((hf2 5 (by omega)).trans rfl) ((hf2 6 (by omega)).trans rfl))⟩, ⟨_, (hT7.keep ((hf2 7 (by omega)).trans rfl) ((hf2 8 (by omega)).trans rfl)), rfl, z7⟩, hg7, ⟨_, (hT9.keep ((hf2 9 (by omega)).trans rfl) ((hf2 10 (by omega)).trans rfl)), rfl, z9⟩, hg9, ⟨_, _, _, (hO11.keep ((hf2 11 (by omega)).trans rfl) ((hf2 12 (by omega)).trans rfl) ((hf2 13 (by omega)).trans rfl))⟩, (hRd.keep (fun k r0 r1 => ((hf2 k (by omega)).trans rfl))), ⟨_, _, _, _, _, hM2⟩, (hH.keep (fun k r0 => ((hf2 k (by omega)).trans rfl))), (hX.keep ((hf2 36 (by omega)).trans rfl) ((hf2 37 (by omega)).trans rfl)), (hB.keep ((hf2 38 (by omega)).trans rfl) ((hf2 39 (by omega)).trans rfl) ((hf2 40 (by omega)).trans rfl))⟩, (fun k n0 => ((hf2 k (by omega)).trans rfl))⟩
            · obtain ⟨q9, hq9⟩ := Option.isSome_iff_exists.mp hb42
              refine A_aload_n (q := 46) X dX8_machineSteps_45 rfl rfl ?_
              refine A_getf (q := 49) X fX8_45 dX8_machineSteps_46 (by omega) ((hf2 _ (by omega)).trans h0) rfl rfl ?_
              refine A_iload_n (q := 50) X dX8_machineSteps_49 rfl rfl ?_
              refine A_V1i (q := 53) X (c_X2_applications hG hN hM2.2.1 hM2.2.2.2.2 (by omega)) mX2_applications kX8_190 dX8_machineSteps_50 (by omega) hM2.2.1 rfl (by decide) (Nat.le_of_ble_eq_true rfl) rfl (fun vq_6 cq_5 hq_4 => ?_)
              obtain ⟨rfl, hq_4⟩ := hq_4
              obtain rfl := hq_4.symm
              refine A_goto (q := 58) X dX8_machineSteps_53 rfl ?_
              have e9 : fMSteps r m (T1.1, x, hs, T7.1, T9.1, o, sd) = (q9.1 r.toNat, (T1.1, x, hs, T7.1, T9.1, o, sd)) := by unfold fMSteps; dsimp only; rw [if_pos (by omega), hq9]
              exact A_ireturn X dX8_machineSteps_58 ⟨by rw [e9, (hr2 q9 hq9).1 r.toNat (by omega)], by rw [e9]; exact ⟨hN, ((hf2 _ (by omega)).trans h0), ⟨_, (hT1.keep ((hf2 1 (by omega)).trans rfl) ((hf2 2 (by omega)).trans rfl)), rfl, z1⟩, hgd, ⟨_, (hT3.keep ((hf2 3 (by omega)).trans rfl) ((hf2 4 (by omega)).trans rfl))⟩, ⟨_, (hT5.keep ((hf2 5 (by omega)).trans rfl) ((hf2 6 (by omega)).trans rfl))⟩, ⟨_, (hT7.keep ((hf2 7 (by omega)).trans rfl) ((hf2 8 (by omega)).trans rfl)), rfl, z7⟩, hg7, ⟨_, (hT9.keep ((hf2 9 (by omega)).trans rfl) ((hf2 10 (by omega)).trans rfl)), rfl, z9⟩, hg9, ⟨_, _, _, (hO11.keep ((hf2 11 (by omega)).trans rfl) ((hf2 12 (by omega)).trans rfl) ((hf2 13 (by omega)).trans rfl))⟩, (hRd.keep (fun k r0 r1 => ((hf2 k (by omega)).trans rfl))), ⟨_, _, _, _, _, hM2⟩, (hH.keep (fun k r0 => ((hf2 k (by omega)).trans rfl))), (hX.keep ((hf2 36 (by omega)).trans rfl) ((hf2 37 (by omega)).trans rfl)), (hB.keep ((hf2 38 (by omega)).trans rfl) ((hf2 39 (by omega)).trans rfl) ((hf2 40 (by omega)).trans rfl))⟩, (fun k n0 => ((hf2 k (by omega)).trans rfl))⟩
          · refine A_iconst (q := 35) X dX8_machineSteps_34 rfl ?_
            refine A_goto (q := 39) X dX8_machineSteps_35 rfl ?_
            rw [show zI 1 = zI (if m = 1 then 1 else 0) from zb1 (by omega)]
            refine A_V2i (q := 42) X (c_X2_work (mg := m = 1) (dm := inferInstance) hG hN hM hT1 hgd (by omega) (by omega)) mX2_work kX8_186 dX8_machineSteps_39 (by omega) hM.2.1 rfl (by decide) (Nat.le_of_ble_eq_true rfl) rfl (fun vq_9 cq_8 hq_7 => ?_)
            obtain ⟨rfl, ⟨P2, Q2, X2, ap2, pk2, hM2, hr2⟩, hf2⟩ := hq_7
            refine A_beq (q := 45) (t := 56) X dX8_machineSteps_42 rfl rfl (fun hb42 => ?_) (fun hb42 => ?_)
            · refine A_bipush (q := 58) X dX8_machineSteps_56 (by decide) rfl ?_
              have hno : mrun (m = 1) 600 T1.1 (fun _ => 0) ((T1.1.length : Nat) : Int) = none := by cases h : mrun (m = 1) 600 T1.1 (fun _ => 0) ((T1.1.length : Nat) : Int) with | none => rfl | some v => rw [h] at hb42; exact absurd rfl hb42
              have e9 : fMSteps r m (T1.1, x, hs, T7.1, T9.1, o, sd) = (-9, (T1.1, x, hs, T7.1, T9.1, o, sd)) := by unfold fMSteps; dsimp only; rw [if_pos (by omega), hno]
              exact A_ireturn X dX8_machineSteps_58 ⟨by rw [e9], by rw [e9]; exact ⟨hN, ((hf2 _ (by omega)).trans h0), ⟨_, (hT1.keep ((hf2 1 (by omega)).trans rfl) ((hf2 2 (by omega)).trans rfl)), rfl, z1⟩, hgd, ⟨_, (hT3.keep ((hf2 3 (by omega)).trans rfl) ((hf2 4 (by omega)).trans rfl))⟩, ⟨_, (hT5.keep ((hf2 5 (by omega)).trans rfl) ((hf2 6 (by omega)).trans rfl))⟩, ⟨_, (hT7.keep ((hf2 7 (by omega)).trans rfl) ((hf2 8 (by omega)).trans rfl)), rfl, z7⟩, hg7, ⟨_, (hT9.keep ((hf2 9 (by omega)).trans rfl) ((hf2 10 (by omega)).trans rfl)), rfl, z9⟩, hg9, ⟨_, _, _, (hO11.keep ((hf2 11 (by omega)).trans rfl) ((hf2 12 (by omega)).trans rfl) ((hf2 13 (by omega)).trans rfl))⟩, (hRd.keep (fun k r0 r1 => ((hf2 k (by omega)).trans rfl))), ⟨_, _, _, _, _, hM2⟩, (hH.keep (fun k r0 => ((hf2 k (by omega)).trans rfl))), (hX.keep ((hf2 36 (by omega)).trans rfl) ((hf2 37 (by omega)).trans rfl)), (hB.keep ((hf2 38 (by omega)).trans rfl) ((hf2 39 (by omega)).trans rfl) ((hf2 40 (by omega)).trans rfl))⟩, (fun k n0 => ((hf2 k (by omega)).trans rfl))⟩
            · obtain ⟨q9, hq9⟩ := Option.isSome_iff_exists.mp hb42
              refine A_aload_n (q := 46) X dX8_machineSteps_45 rfl rfl ?_
              refine A_getf (q := 49) X fX8_45 dX8_machineSteps_46 (by omega) ((hf2 _ (by omega)).trans h0) rfl rfl ?_
              refine A_iload_n (q := 50) X dX8_machineSteps_49 rfl rfl ?_
              refine A_V1i (q := 53) X (c_X2_applications hG hN hM2.2.1 hM2.2.2.2.2 (by omega)) mX2_applications kX8_190 dX8_machineSteps_50 (by omega) hM2.2.1 rfl (by decide) (Nat.le_of_ble_eq_true rfl) rfl (fun vq_12 cq_11 hq_10 => ?_)
              obtain ⟨rfl, hq_10⟩ := hq_10
              obtain rfl := hq_10.symm
              refine A_goto (q := 58) X dX8_machineSteps_53 rfl ?_
              have e9 : fMSteps r m (T1.1, x, hs, T7.1, T9.1, o, sd) = (q9.1 r.toNat, (T1.1, x, hs, T7.1, T9.1, o, sd)) := by unfold fMSteps; dsimp only; rw [if_pos (by omega), hq9]
              exact A_ireturn X dX8_machineSteps_58 ⟨by rw [e9, (hr2 q9 hq9).1 r.toNat (by omega)], by rw [e9]; exact ⟨hN, ((hf2 _ (by omega)).trans h0), ⟨_, (hT1.keep ((hf2 1 (by omega)).trans rfl) ((hf2 2 (by omega)).trans rfl)), rfl, z1⟩, hgd, ⟨_, (hT3.keep ((hf2 3 (by omega)).trans rfl) ((hf2 4 (by omega)).trans rfl))⟩, ⟨_, (hT5.keep ((hf2 5 (by omega)).trans rfl) ((hf2 6 (by omega)).trans rfl))⟩, ⟨_, (hT7.keep ((hf2 7 (by omega)).trans rfl) ((hf2 8 (by omega)).trans rfl)), rfl, z7⟩, hg7, ⟨_, (hT9.keep ((hf2 9 (by omega)).trans rfl) ((hf2 10 (by omega)).trans rfl)), rfl, z9⟩, hg9, ⟨_, _, _, (hO11.keep ((hf2 11 (by omega)).trans rfl) ((hf2 12 (by omega)).trans rfl) ((hf2 13 (by omega)).trans rfl))⟩, (hRd.keep (fun k r0 r1 => ((hf2 k (by omega)).trans rfl))), ⟨_, _, _, _, _, hM2⟩, (hH.keep (fun k r0 => ((hf2 k (by omega)).trans rfl))), (hX.keep ((hf2 36 (by omega)).trans rfl) ((hf2 37 (by omega)).trans rfl)), (hB.keep ((hf2 38 (by omega)).trans rfl) ((hf2 39 (by omega)).trans rfl) ((hf2 40 (by omega)).trans rfl))⟩, (fun k n0 => ((hf2 k (by omega)).trans rfl))⟩
        · refine A_bipush (q := 20) X dX8_machineSteps_18 (by decide) rfl ?_
          have e9 : fMSteps r m (T1.1, x, hs, T7.1, T9.1, o, sd) = (-2, (T1.1, x, hs, T7.1, T9.1, o, sd)) := by unfold fMSteps; dsimp only; rw [if_neg (by omega)]
          exact A_ireturn X dX8_machineSteps_20 ⟨by rw [e9], by rw [e9]; exact ⟨hN, h0, ⟨_, hT1, rfl, z1⟩, hgd, ⟨_, hT3⟩, ⟨_, hT5⟩, ⟨_, hT7, rfl, z7⟩, hg7, ⟨_, hT9, rfl, z9⟩, hg9, ⟨_, _, _, hO11⟩, hRd, ⟨_, _, _, _, _, hM⟩, hH, hX, hB⟩, (fun k n0 => rfl)⟩
set_option maxRecDepth 100000 in
set_option maxHeartbeats 4000000 in
theorem c_X8_machinePeak {l : Launch} {G : Gm} {c : HP} {tm x : List Int} {hs : List (List Int)} {s0 s1 : List Int} {o : List (Int × Int)} {sd : Int64} {m : Int} (hG : injG G) (hmr : rg m) (hW : WX G c (tm, x, hs, s0, s1, o, sd)) : AMet l G yX8_machinePeak cX8_machinePeak 2 ((some .int)) (rmR 5 142) [.ref (G.1 0), .int (zI m)] c (Qi (fun v c' => v = zI (fMPeak m (tm, x, hs, s0, s1, o, sd)).1 ∧ WX G c' (fMPeak m (tm, x, hs, s0, s1, o, sd)).2 ∧ (∀ k, 55 ≤ k → c' k = c k))) := by
  refine AMet.of (vl := [some (.ref (G.1 0)), some (.int (zI m))]) (by decide) hG (Nat.le_of_ble_eq_true rfl) rfl ?_
  intro K X
  have X : Fx l G K cX8_machinePeak 2 RX8 ((some .int)) (rmR 5 142) := X
  have hW0 := hW
  obtain ⟨hN, h0, ⟨T1, hT1, eT1, z1⟩, hgd, ⟨T3, hT3⟩, ⟨T5, hT5⟩, ⟨T7, hT7, eT7, z7⟩, hg7, ⟨T9, hT9, eT9, z9⟩, hg9, ⟨n11, E11, D11, hO11⟩, hRd, ⟨P0, Q0, X0, ap0, pk0, hM⟩, hH, hX, hB⟩ := hW
  dsimp only at h0 eT1 hgd eT7 hg7 eT9 hg9 hH hX hB
  subst eT1 eT7 eT9
  obtain ⟨p33, h33⟩ := hH.cell
  have hl1 := hT1.len
  have hl7 := hT7.len
  have hl9 := hT9.len
  have hxl := hX.2.1
  refine A_iload_n (q := 1) X dX8_machinePeak_0 rfl rfl ?_
  refine A_if_lt (q := 4) (t := 9) X dX8_machinePeak_1 (by omega) rfl rfl (fun hb1 => ?_) (fun hb1 => ?_)
  · refine A_bipush (q := 11) X dX8_machinePeak_9 (by decide) rfl ?_
    have e9 : fMPeak m (T1.1, x, hs, T7.1, T9.1, o, sd) = (-2, (T1.1, x, hs, T7.1, T9.1, o, sd)) := by unfold fMPeak; dsimp only; rw [if_neg (by omega)]
    exact A_ireturn X dX8_machinePeak_11 ⟨by rw [e9], by rw [e9]; exact ⟨hN, h0, ⟨_, hT1, rfl, z1⟩, hgd, ⟨_, hT3⟩, ⟨_, hT5⟩, ⟨_, hT7, rfl, z7⟩, hg7, ⟨_, hT9, rfl, z9⟩, hg9, ⟨_, _, _, hO11⟩, hRd, ⟨_, _, _, _, _, hM⟩, hH, hX, hB⟩, (fun k n0 => rfl)⟩
  · refine A_iload_n (q := 5) X dX8_machinePeak_4 rfl rfl ?_
    refine A_iconst (q := 6) X dX8_machinePeak_5 rfl ?_
    refine A_icmp_le (q := 9) (t := 12) X dX8_machinePeak_6 (by omega) (by decide) rfl rfl (fun hb6 => ?_) (fun hb6 => ?_)
    · refine A_aload_n (q := 13) X dX8_machinePeak_12 rfl rfl ?_
      refine A_getf (q := 16) X fX8_45 dX8_machinePeak_13 (by omega) h0 rfl rfl ?_
      refine A_aload_n (q := 17) X dX8_machinePeak_16 rfl rfl ?_
      refine A_getf (q := 20) X fX8_10 dX8_machinePeak_17 (by omega) h0 rfl rfl ?_
      refine A_iload_n (q := 21) X dX8_machinePeak_20 rfl rfl ?_
      refine A_iconst (q := 22) X dX8_machinePeak_21 rfl ?_
      refine A_icmp_ne (q := 25) (t := 29) X dX8_machinePeak_22 (by omega) (by decide) rfl rfl (fun hb22 => ?_) (fun hb22 => ?_)
      · refine A_iconst (q := 30) X dX8_machinePeak_29 rfl ?_
        rw [show zI 0 = zI (if m = 1 then 1 else 0) from zb0 (by omega)]
        refine A_V2i (q := 33) X (c_X2_work (mg := m = 1) (dm := inferInstance) hG hN hM hT1 hgd (by omega) (by omega)) mX2_work kX8_186 dX8_machinePeak_30 (by omega) hM.2.1 rfl (by decide) (Nat.le_of_ble_eq_true rfl) rfl (fun vq_3 cq_2 hq_1 => ?_)
        obtain ⟨rfl, ⟨P2, Q2, X2, ap2, pk2, hM2, hr2⟩, hf2⟩ := hq_1
        refine A_beq (q := 36) (t := 46) X dX8_machinePeak_33 rfl rfl (fun hb33 => ?_) (fun hb33 => ?_)
        · refine A_bipush (q := 48) X dX8_machinePeak_46 (by decide) rfl ?_
          have hno : mrun (m = 1) 600 T1.1 (fun _ => 0) ((T1.1.length : Nat) : Int) = none := by cases h : mrun (m = 1) 600 T1.1 (fun _ => 0) ((T1.1.length : Nat) : Int) with | none => rfl | some v => rw [h] at hb33; exact absurd rfl hb33
          have e9 : fMPeak m (T1.1, x, hs, T7.1, T9.1, o, sd) = (-9, (T1.1, x, hs, T7.1, T9.1, o, sd)) := by unfold fMPeak; dsimp only; rw [if_pos (by omega), hno]
          exact A_ireturn X dX8_machinePeak_48 ⟨by rw [e9], by rw [e9]; exact ⟨hN, ((hf2 _ (by omega)).trans h0), ⟨_, (hT1.keep ((hf2 1 (by omega)).trans rfl) ((hf2 2 (by omega)).trans rfl)), rfl, z1⟩, hgd, ⟨_, (hT3.keep ((hf2 3 (by omega)).trans rfl) ((hf2 4 (by omega)).trans rfl))⟩, ⟨_, (hT5.keep ((hf2 5 (by omega)).trans rfl) ((hf2 6 (by omega)).trans rfl))⟩, ⟨_, (hT7.keep ((hf2 7 (by omega)).trans rfl) ((hf2 8 (by omega)).trans rfl)), rfl, z7⟩, hg7, ⟨_, (hT9.keep ((hf2 9 (by omega)).trans rfl) ((hf2 10 (by omega)).trans rfl)), rfl, z9⟩, hg9, ⟨_, _, _, (hO11.keep ((hf2 11 (by omega)).trans rfl) ((hf2 12 (by omega)).trans rfl) ((hf2 13 (by omega)).trans rfl))⟩, (hRd.keep (fun k r0 r1 => ((hf2 k (by omega)).trans rfl))), ⟨_, _, _, _, _, hM2⟩, (hH.keep (fun k r0 => ((hf2 k (by omega)).trans rfl))), (hX.keep ((hf2 36 (by omega)).trans rfl) ((hf2 37 (by omega)).trans rfl)), (hB.keep ((hf2 38 (by omega)).trans rfl) ((hf2 39 (by omega)).trans rfl) ((hf2 40 (by omega)).trans rfl))⟩, (fun k n0 => ((hf2 k (by omega)).trans rfl))⟩
        · obtain ⟨q9, hq9⟩ := Option.isSome_iff_exists.mp hb33
          refine A_aload_n (q := 37) X dX8_machinePeak_36 rfl rfl ?_
          refine A_getf (q := 40) X fX8_45 dX8_machinePeak_37 (by omega) ((hf2 _ (by omega)).trans h0) rfl rfl ?_
          refine A_V0i (q := 43) X (c_X2_peak hG hN hM2.2.1) mX2_peak kX8_193 dX8_machinePeak_40 (by omega) hM2.2.1 rfl (by decide) (Nat.le_of_ble_eq_true rfl) rfl (fun vq_6 cq_5 hq_4 => ?_)
          obtain ⟨rfl, hq_4⟩ := hq_4
          obtain rfl := hq_4.symm
          refine A_goto (q := 48) X dX8_machinePeak_43 rfl ?_
          have e9 : fMPeak m (T1.1, x, hs, T7.1, T9.1, o, sd) = (q9.2, (T1.1, x, hs, T7.1, T9.1, o, sd)) := by unfold fMPeak; dsimp only; rw [if_pos (by omega), hq9]
          exact A_ireturn X dX8_machinePeak_48 ⟨by rw [e9, (hr2 q9 hq9).2], by rw [e9]; exact ⟨hN, ((hf2 _ (by omega)).trans h0), ⟨_, (hT1.keep ((hf2 1 (by omega)).trans rfl) ((hf2 2 (by omega)).trans rfl)), rfl, z1⟩, hgd, ⟨_, (hT3.keep ((hf2 3 (by omega)).trans rfl) ((hf2 4 (by omega)).trans rfl))⟩, ⟨_, (hT5.keep ((hf2 5 (by omega)).trans rfl) ((hf2 6 (by omega)).trans rfl))⟩, ⟨_, (hT7.keep ((hf2 7 (by omega)).trans rfl) ((hf2 8 (by omega)).trans rfl)), rfl, z7⟩, hg7, ⟨_, (hT9.keep ((hf2 9 (by omega)).trans rfl) ((hf2 10 (by omega)).trans rfl)), rfl, z9⟩, hg9, ⟨_, _, _, (hO11.keep ((hf2 11 (by omega)).trans rfl) ((hf2 12 (by omega)).trans rfl) ((hf2 13 (by omega)).trans rfl))⟩, (hRd.keep (fun k r0 r1 => ((hf2 k (by omega)).trans rfl))), ⟨_, _, _, _, _, hM2⟩, (hH.keep (fun k r0 => ((hf2 k (by omega)).trans rfl))), (hX.keep ((hf2 36 (by omega)).trans rfl) ((hf2 37 (by omega)).trans rfl)), (hB.keep ((hf2 38 (by omega)).trans rfl) ((hf2 39 (by omega)).trans rfl) ((hf2 40 (by omega)).trans rfl))⟩, (fun k n0 => ((hf2 k (by omega)).trans rfl))⟩
      · refine A_iconst (q := 26) X dX8_machinePeak_25 rfl ?_
        refine A_goto (q := 30) X dX8_machinePeak_26 rfl ?_
        rw [show zI 1 = zI (if m = 1 then 1 else 0) from zb1 (by omega)]
        refine A_V2i (q := 33) X (c_X2_work (mg := m = 1) (dm := inferInstance) hG hN hM hT1 hgd (by omega) (by omega)) mX2_work kX8_186 dX8_machinePeak_30 (by omega) hM.2.1 rfl (by decide) (Nat.le_of_ble_eq_true rfl) rfl (fun vq_9 cq_8 hq_7 => ?_)
        obtain ⟨rfl, ⟨P2, Q2, X2, ap2, pk2, hM2, hr2⟩, hf2⟩ := hq_7
        refine A_beq (q := 36) (t := 46) X dX8_machinePeak_33 rfl rfl (fun hb33 => ?_) (fun hb33 => ?_)
        · refine A_bipush (q := 48) X dX8_machinePeak_46 (by decide) rfl ?_
          have hno : mrun (m = 1) 600 T1.1 (fun _ => 0) ((T1.1.length : Nat) : Int) = none := by cases h : mrun (m = 1) 600 T1.1 (fun _ => 0) ((T1.1.length : Nat) : Int) with | none => rfl | some v => rw [h] at hb33; exact absurd rfl hb33
          have e9 : fMPeak m (T1.1, x, hs, T7.1, T9.1, o, sd) = (-9, (T1.1, x, hs, T7.1, T9.1, o, sd)) := by unfold fMPeak; dsimp only; rw [if_pos (by omega), hno]
          exact A_ireturn X dX8_machinePeak_48 ⟨by rw [e9], by rw [e9]; exact ⟨hN, ((hf2 _ (by omega)).trans h0), ⟨_, (hT1.keep ((hf2 1 (by omega)).trans rfl) ((hf2 2 (by omega)).trans rfl)), rfl, z1⟩, hgd, ⟨_, (hT3.keep ((hf2 3 (by omega)).trans rfl) ((hf2 4 (by omega)).trans rfl))⟩, ⟨_, (hT5.keep ((hf2 5 (by omega)).trans rfl) ((hf2 6 (by omega)).trans rfl))⟩, ⟨_, (hT7.keep ((hf2 7 (by omega)).trans rfl) ((hf2 8 (by omega)).trans rfl)), rfl, z7⟩, hg7, ⟨_, (hT9.keep ((hf2 9 (by omega)).trans rfl) ((hf2 10 (by omega)).trans rfl)), rfl, z9⟩, hg9, ⟨_, _, _, (hO11.keep ((hf2 11 (by omega)).trans rfl) ((hf2 12 (by omega)).trans rfl) ((hf2 13 (by omega)).trans rfl))⟩, (hRd.keep (fun k r0 r1 => ((hf2 k (by omega)).trans rfl))), ⟨_, _, _, _, _, hM2⟩, (hH.keep (fun k r0 => ((hf2 k (by omega)).trans rfl))), (hX.keep ((hf2 36 (by omega)).trans rfl) ((hf2 37 (by omega)).trans rfl)), (hB.keep ((hf2 38 (by omega)).trans rfl) ((hf2 39 (by omega)).trans rfl) ((hf2 40 (by omega)).trans rfl))⟩, (fun k n0 => ((hf2 k (by omega)).trans rfl))⟩
        · obtain ⟨q9, hq9⟩ := Option.isSome_iff_exists.mp hb33
          refine A_aload_n (q := 37) X dX8_machinePeak_36 rfl rfl ?_
          refine A_getf (q := 40) X fX8_45 dX8_machinePeak_37 (by omega) ((hf2 _ (by omega)).trans h0) rfl rfl ?_
          refine A_V0i (q := 43) X (c_X2_peak hG hN hM2.2.1) mX2_peak kX8_193 dX8_machinePeak_40 (by omega) hM2.2.1 rfl (by decide) (Nat.le_of_ble_eq_true rfl) rfl (fun vq_12 cq_11 hq_10 => ?_)
          obtain ⟨rfl, hq_10⟩ := hq_10
          obtain rfl := hq_10.symm
          refine A_goto (q := 48) X dX8_machinePeak_43 rfl ?_
          have e9 : fMPeak m (T1.1, x, hs, T7.1, T9.1, o, sd) = (q9.2, (T1.1, x, hs, T7.1, T9.1, o, sd)) := by unfold fMPeak; dsimp only; rw [if_pos (by omega), hq9]
          exact A_ireturn X dX8_machinePeak_48 ⟨by rw [e9, (hr2 q9 hq9).2], by rw [e9]; exact ⟨hN, ((hf2 _ (by omega)).trans h0), ⟨_, (hT1.keep ((hf2 1 (by omega)).trans rfl) ((hf2 2 (by omega)).trans rfl)), rfl, z1⟩, hgd, ⟨_, (hT3.keep ((hf2 3 (by omega)).trans rfl) ((hf2 4 (by omega)).trans rfl))⟩, ⟨_, (hT5.keep ((hf2 5 (by omega)).trans rfl) ((hf2 6 (by omega)).trans rfl))⟩, ⟨_, (hT7.keep ((hf2 7 (by omega)).trans rfl) ((hf2 8 (by omega)).trans rfl)), rfl, z7⟩, hg7, ⟨_, (hT9.keep ((hf2 9 (by omega)).trans rfl) ((hf2 10 (by omega)).trans rfl)), rfl, z9⟩, hg9, ⟨_, _, _, (hO11.keep ((hf2 11 (by omega)).trans rfl) ((hf2 12 (by omega)).trans rfl) ((hf2 13 (by omega)).trans rfl))⟩, (hRd.keep (fun k r0 r1 => ((hf2 k (by omega)).trans rfl))), ⟨_, _, _, _, _, hM2⟩, (hH.keep (fun k r0 => ((hf2 k (by omega)).trans rfl))), (hX.keep ((hf2 36 (by omega)).trans rfl) ((hf2 37 (by omega)).trans rfl)), (hB.keep ((hf2 38 (by omega)).trans rfl) ((hf2 39 (by omega)).trans rfl) ((hf2 40 (by omega)).trans rfl))⟩, (fun k n0 => ((hf2 k (by omega)).trans rfl))⟩
    · refine A_bipush (q := 11) X dX8_machinePeak_9 (by decide) rfl ?_
      have e9 : fMPeak m (T1.1, x, hs, T7.1, T9.1, o, sd) = (-2, (T1.1, x, hs, T7.1, T9.1, o, sd)) := by unfold fMPeak; dsimp only; rw [if_neg (by omega)]
      exact A_ireturn X dX8_machinePeak_11 ⟨by rw [e9], by rw [e9]; exact ⟨hN, h0, ⟨_, hT1, rfl, z1⟩, hgd, ⟨_, hT3⟩, ⟨_, hT5⟩, ⟨_, hT7, rfl, z7⟩, hg7, ⟨_, hT9, rfl, z9⟩, hg9, ⟨_, _, _, hO11⟩, hRd, ⟨_, _, _, _, _, hM⟩, hH, hX, hB⟩, (fun k n0 => rfl)⟩
set_option maxRecDepth 100000 in
set_option maxHeartbeats 4000000 in
theorem c_X8_save {l : Launch} {G : Gm} {c : HP} {tm x : List Int} {hs : List (List Int)} {s0 s1 : List Int} {o : List (Int × Int)} {sd : Int64} {k : Int} (hG : injG G) (hkr : rg k) (hW : WX G c (tm, x, hs, s0, s1, o, sd)) : AMet l G yX8_save cX8_save 2 ((some .int)) (rmR 2 61) [.ref (G.1 0), .int (zI k)] c (Qi (fun v c' => v = zI (fSave k (tm, x, hs, s0, s1, o, sd)).1 ∧ WX G c' (fSave k (tm, x, hs, s0, s1, o, sd)).2 ∧ (∀ k, 55 ≤ k → c' k = c k))) := by
  refine AMet.of (vl := [some (.ref (G.1 0)), some (.int (zI k))]) (by decide) hG (Nat.le_of_ble_eq_true rfl) rfl ?_
  intro K X
  have X : Fx l G K cX8_save 2 RX8 ((some .int)) (rmR 2 61) := X
  have hW0 := hW
  obtain ⟨hN, h0, ⟨T1, hT1, eT1, z1⟩, hgd, ⟨T3, hT3⟩, ⟨T5, hT5⟩, ⟨T7, hT7, eT7, z7⟩, hg7, ⟨T9, hT9, eT9, z9⟩, hg9, ⟨n11, E11, D11, hO11⟩, hRd, ⟨P0, Q0, X0, ap0, pk0, hM⟩, hH, hX, hB⟩ := hW
  dsimp only at h0 eT1 hgd eT7 hg7 eT9 hg9 hH hX hB
  subst eT1 eT7 eT9
  obtain ⟨p33, h33⟩ := hH.cell
  have hl1 := hT1.len
  have hl7 := hT7.len
  have hl9 := hT9.len
  have hxl := hX.2.1
  refine A_iload_n (q := 1) X dX8_save_0 rfl rfl ?_
  refine A_S1i (q := 4) X (c_X8_isSlot hG (by omega)) mX8_isSlot kX8_146 dX8_save_1 (by decide) (Nat.le_of_ble_eq_true rfl) rfl (fun vq_3 cq_2 hq_1 => ?_)
  obtain ⟨rfl, hq_1⟩ := hq_1
  obtain rfl := hq_1.symm
  refine A_bne (q := 7) (t := 9) X dX8_save_4 rfl rfl (fun hb4 => ?_) (fun hb4 => ?_)
  · refine A_aload_n (q := 10) X dX8_save_9 rfl rfl ?_
    refine A_iload_n (q := 11) X dX8_save_10 rfl rfl ?_
    refine A_V1r (q := 14) X (c_X8_slotTerm hG (by omega) hW0) mX8_slotTerm kX8_149 dX8_save_11 (by omega) h0 rfl (by decide) (Nat.le_of_ble_eq_true rfl) rfl (fun vq_6 cq_5 hq_4 => ?_)
    obtain ⟨hqs, hq_4⟩ := hq_4
    obtain rfl := hq_4.symm
    by_cases hk0 : k = 0
    · rw [if_pos hk0] at hqs
      subst hqs
      have es : sltS (T1.1, x, hs, T7.1, T9.1, o, sd) k = T7.1 := by unfold sltS; rw [if_pos hk0]
      refine A_aload_n (q := 15) X dX8_save_14 rfl rfl ?_
      refine A_getf (q := 18) X fX8_10 dX8_save_15 (by omega) h0 rfl rfl ?_
      refine A_V1v (q := 21) X (c_X6_copyFrom hG hT7 hT1 (by omega) (by omega) (by omega) (by omega)) mX6_copyFrom kX8_128 dX8_save_18 (by omega) hT7.cell rfl (by decide) (Nat.le_of_ble_eq_true rfl) rfl (fun cq_8 hq_7 => ?_)
      obtain ⟨hT_9, hf_10⟩ := hq_7
      refine A_aload_n (q := 22) X dX8_save_21 rfl rfl ?_
      refine A_getf (q := 25) X fX8_10 dX8_save_22 (by omega) ((hf_10 _ (by omega) (by omega)).trans h0) rfl rfl ?_
      refine A_V0i (q := 28) X (c_X6_length hG (hT1.keep ((hf_10 1 (by omega) (by omega)).trans rfl) ((hf_10 2 (by omega) (by omega)).trans rfl))) mX6_length kX8_100 dX8_save_25 (by omega) (hT1.keep ((hf_10 1 (by omega) (by omega)).trans rfl) ((hf_10 2 (by omega) (by omega)).trans rfl)).cell rfl (by decide) (Nat.le_of_ble_eq_true rfl) rfl (fun vq_13 cq_12 hq_11 => ?_)
      obtain ⟨rfl, hq_11⟩ := hq_11
      obtain rfl := hq_11.symm
      have e9 : fSave k (T1.1, x, hs, T7.1, T9.1, o, sd) = (((T1.1.length : Nat) : Int), (T1.1, x, hs, T1.1, T9.1, o, sd)) := by unfold fSave; dsimp only; rw [if_pos (by omega), if_pos hk0, if_pos hk0]
      exact A_ireturn X dX8_save_28 ⟨by rw [e9], by rw [e9]; exact ⟨hN, ((hf_10 _ (by omega) (by omega)).trans h0), ⟨_, (hT1.keep ((hf_10 1 (by omega) (by omega)).trans rfl) ((hf_10 2 (by omega) (by omega)).trans rfl)), rfl, z1⟩, hgd, ⟨_, (hT3.keep ((hf_10 3 (by omega) (by omega)).trans rfl) ((hf_10 4 (by omega) (by omega)).trans rfl))⟩, ⟨_, (hT5.keep ((hf_10 5 (by omega) (by omega)).trans rfl) ((hf_10 6 (by omega) (by omega)).trans rfl))⟩, ⟨_, hT_9, rfl, z1⟩, (Or.inr hgd), ⟨_, (hT9.keep ((hf_10 9 (by omega) (by omega)).trans rfl) ((hf_10 10 (by omega) (by omega)).trans rfl)), rfl, z9⟩, hg9, ⟨_, _, _, (hO11.keep ((hf_10 11 (by omega) (by omega)).trans rfl) ((hf_10 12 (by omega) (by omega)).trans rfl) ((hf_10 13 (by omega) (by omega)).trans rfl))⟩, (hRd.keep (fun k r0 r1 => ((hf_10 k (by omega) (by omega)).trans rfl))), ⟨_, _, _, _, _, (hM.keep (fun k r0 r1 => ((hf_10 k (by omega) (by omega)).trans rfl)))⟩, (hH.keep (fun k r0 => ((hf_10 k (by omega) (by omega)).trans rfl))), (hX.keep ((hf_10 36 (by omega) (by omega)).trans rfl) ((hf_10 37 (by omega) (by omega)).trans rfl)), (hB.keep ((hf_10 38 (by omega) (by omega)).trans rfl) ((hf_10 39 (by omega) (by omega)).trans rfl) ((hf_10 40 (by omega) (by omega)).trans rfl))⟩, (fun k n0 => ((hf_10 k (by omega) (by omega)).trans rfl))⟩
    · rw [if_neg hk0] at hqs
      subst hqs
      have es : sltS (T1.1, x, hs, T7.1, T9.1, o, sd) k = T9.1 := by unfold sltS; rw [if_neg hk0]
      refine A_aload_n (q := 15) X dX8_save_14 rfl rfl ?_
      refine A_getf (q := 18) X fX8_10 dX8_save_15 (by omega) h0 rfl rfl ?_
      refine A_V1v (q := 21) X (c_X6_copyFrom hG hT9 hT1 (by omega) (by omega) (by omega) (by omega)) mX6_copyFrom kX8_128 dX8_save_18 (by omega) hT9.cell rfl (by decide) (Nat.le_of_ble_eq_true rfl) rfl (fun cq_15 hq_14 => ?_)
      obtain ⟨hT_16, hf_17⟩ := hq_14
      refine A_aload_n (q := 22) X dX8_save_21 rfl rfl ?_
      refine A_getf (q := 25) X fX8_10 dX8_save_22 (by omega) ((hf_17 _ (by omega) (by omega)).trans h0) rfl rfl ?_
      refine A_V0i (q := 28) X (c_X6_length hG (hT1.keep ((hf_17 1 (by omega) (by omega)).trans rfl) ((hf_17 2 (by omega) (by omega)).trans rfl))) mX6_length kX8_100 dX8_save_25 (by omega) (hT1.keep ((hf_17 1 (by omega) (by omega)).trans rfl) ((hf_17 2 (by omega) (by omega)).trans rfl)).cell rfl (by decide) (Nat.le_of_ble_eq_true rfl) rfl (fun vq_20 cq_19 hq_18 => ?_)
      obtain ⟨rfl, hq_18⟩ := hq_18
      obtain rfl := hq_18.symm
      have e9 : fSave k (T1.1, x, hs, T7.1, T9.1, o, sd) = (((T1.1.length : Nat) : Int), (T1.1, x, hs, T7.1, T1.1, o, sd)) := by unfold fSave; dsimp only; rw [if_pos (by omega), if_neg hk0, if_neg hk0]
      exact A_ireturn X dX8_save_28 ⟨by rw [e9], by rw [e9]; exact ⟨hN, ((hf_17 _ (by omega) (by omega)).trans h0), ⟨_, (hT1.keep ((hf_17 1 (by omega) (by omega)).trans rfl) ((hf_17 2 (by omega) (by omega)).trans rfl)), rfl, z1⟩, hgd, ⟨_, (hT3.keep ((hf_17 3 (by omega) (by omega)).trans rfl) ((hf_17 4 (by omega) (by omega)).trans rfl))⟩, ⟨_, (hT5.keep ((hf_17 5 (by omega) (by omega)).trans rfl) ((hf_17 6 (by omega) (by omega)).trans rfl))⟩, ⟨_, (hT7.keep ((hf_17 7 (by omega) (by omega)).trans rfl) ((hf_17 8 (by omega) (by omega)).trans rfl)), rfl, z7⟩, hg7, ⟨_, hT_16, rfl, z1⟩, (Or.inr hgd), ⟨_, _, _, (hO11.keep ((hf_17 11 (by omega) (by omega)).trans rfl) ((hf_17 12 (by omega) (by omega)).trans rfl) ((hf_17 13 (by omega) (by omega)).trans rfl))⟩, (hRd.keep (fun k r0 r1 => ((hf_17 k (by omega) (by omega)).trans rfl))), ⟨_, _, _, _, _, (hM.keep (fun k r0 r1 => ((hf_17 k (by omega) (by omega)).trans rfl)))⟩, (hH.keep (fun k r0 => ((hf_17 k (by omega) (by omega)).trans rfl))), (hX.keep ((hf_17 36 (by omega) (by omega)).trans rfl) ((hf_17 37 (by omega) (by omega)).trans rfl)), (hB.keep ((hf_17 38 (by omega) (by omega)).trans rfl) ((hf_17 39 (by omega) (by omega)).trans rfl) ((hf_17 40 (by omega) (by omega)).trans rfl))⟩, (fun k n0 => ((hf_17 k (by omega) (by omega)).trans rfl))⟩
  · refine A_iconst (q := 8) X dX8_save_7 rfl ?_
    have e9 : fSave k (T1.1, x, hs, T7.1, T9.1, o, sd) = (-1, (T1.1, x, hs, T7.1, T9.1, o, sd)) := by unfold fSave; dsimp only; rw [if_neg (by omega)]
    exact A_ireturn X dX8_save_8 ⟨by rw [e9], by rw [e9]; exact ⟨hN, h0, ⟨_, hT1, rfl, z1⟩, hgd, ⟨_, hT3⟩, ⟨_, hT5⟩, ⟨_, hT7, rfl, z7⟩, hg7, ⟨_, hT9, rfl, z9⟩, hg9, ⟨_, _, _, hO11⟩, hRd, ⟨_, _, _, _, _, hM⟩, hH, hX, hB⟩, (fun k n0 => rfl)⟩
set_option maxRecDepth 100000 in
set_option maxHeartbeats 4000000 in
theorem c_X8_restore {l : Launch} {G : Gm} {c : HP} {tm x : List Int} {hs : List (List Int)} {s0 s1 : List Int} {o : List (Int × Int)} {sd : Int64} {k : Int} (hG : injG G) (hkr : rg k) (hW : WX G c (tm, x, hs, s0, s1, o, sd)) : AMet l G yX8_restore cX8_restore 3 ((some .int)) (rmR 2 61) [.ref (G.1 0), .int (zI k)] c (Qi (fun v c' => v = zI (fRestore k (tm, x, hs, s0, s1, o, sd)).1 ∧ WX G c' (fRestore k (tm, x, hs, s0, s1, o, sd)).2 ∧ (∀ k, 55 ≤ k → c' k = c k))) := by
  refine AMet.of (vl := [some (.ref (G.1 0)), some (.int (zI k))]) (by decide) hG (Nat.le_of_ble_eq_true rfl) rfl ?_
  intro K X
  have X : Fx l G K cX8_restore 3 RX8 ((some .int)) (rmR 2 61) := X
  have hW0 := hW
  obtain ⟨hN, h0, ⟨T1, hT1, eT1, z1⟩, hgd, ⟨T3, hT3⟩, ⟨T5, hT5⟩, ⟨T7, hT7, eT7, z7⟩, hg7, ⟨T9, hT9, eT9, z9⟩, hg9, ⟨n11, E11, D11, hO11⟩, hRd, ⟨P0, Q0, X0, ap0, pk0, hM⟩, hH, hX, hB⟩ := hW
  dsimp only at h0 eT1 hgd eT7 hg7 eT9 hg9 hH hX hB
  subst eT1 eT7 eT9
  obtain ⟨p33, h33⟩ := hH.cell
  have hl1 := hT1.len
  have hl7 := hT7.len
  have hl9 := hT9.len
  have hxl := hX.2.1
  refine A_iload_n (q := 1) X dX8_restore_0 rfl rfl ?_
  refine A_S1i (q := 4) X (c_X8_isSlot hG (by omega)) mX8_isSlot kX8_146 dX8_restore_1 (by decide) (Nat.le_of_ble_eq_true rfl) rfl (fun vq_3 cq_2 hq_1 => ?_)
  obtain ⟨rfl, hq_1⟩ := hq_1
  obtain rfl := hq_1.symm
  refine A_bne (q := 7) (t := 9) X dX8_restore_4 rfl rfl (fun hb4 => ?_) (fun hb4 => ?_)
  · refine A_aload_n (q := 10) X dX8_restore_9 rfl rfl ?_
    refine A_iload_n (q := 11) X dX8_restore_10 rfl rfl ?_
    refine A_V1r (q := 14) X (c_X8_slotTerm hG (by omega) hW0) mX8_slotTerm kX8_149 dX8_restore_11 (by omega) h0 rfl (by decide) (Nat.le_of_ble_eq_true rfl) rfl (fun vq_6 cq_5 hq_4 => ?_)
    obtain ⟨hqs, hq_4⟩ := hq_4
    obtain rfl := hq_4.symm
    by_cases hk0 : k = 0
    · rw [if_pos hk0] at hqs
      subst hqs
      have es : sltS (T1.1, x, hs, T7.1, T9.1, o, sd) k = T7.1 := by unfold sltS; rw [if_pos hk0]
      refine A_astore_n (q := 15) X dX8_restore_14 (by decide) (okP_s rfl rfl) rfl ?_
      refine A_aload_n (q := 16) X dX8_restore_15 rfl rfl ?_
      refine A_V0i (q := 19) X (c_X6_length hG hT7) mX6_length kX8_100 dX8_restore_16 (by omega) hT7.cell rfl (by decide) (Nat.le_of_ble_eq_true rfl) rfl (fun vq_9 cq_8 hq_7 => ?_)
      obtain ⟨rfl, hq_7⟩ := hq_7
      obtain rfl := hq_7.symm
      refine A_if_ne (q := 22) (t := 25) X dX8_restore_19 (by omega) rfl rfl (fun hb19 => ?_) (fun hb19 => ?_)
      · have hgs : Gd T7.1 := by rcases hg7 with h | h; (exact absurd (by rw [h]; rfl) (show ¬ T7.1.length = 0 by omega)); exact h
        refine A_aload_n (q := 26) X dX8_restore_25 rfl rfl ?_
        refine A_getf (q := 29) X fX8_10 dX8_restore_26 (by omega) h0 rfl rfl ?_
        refine A_aload_n (q := 30) X dX8_restore_29 rfl rfl ?_
        refine A_V1v (q := 33) X (c_X6_copyFrom hG hT1 hT7 (by omega) (by omega) (by omega) (by omega)) mX6_copyFrom kX8_128 dX8_restore_30 (by omega) hT1.cell rfl (by decide) (Nat.le_of_ble_eq_true rfl) rfl (fun cq_11 hq_10 => ?_)
        obtain ⟨hT_12, hf_13⟩ := hq_10
        refine A_aload_n (q := 34) X dX8_restore_33 rfl rfl ?_
        refine A_getf (q := 37) X fX8_52 dX8_restore_34 (by omega) ((hf_13 _ (by omega) (by omega)).trans h0) rfl rfl ?_
        obtain ⟨p_14, h33x_15⟩ := (hH.keep (fun k r0 => ((hf_13 k (by omega) (by omega)).trans rfl))).cell
        refine A_V0v (q := 40) X (c_X1_forgetAll hG hN (hH.keep (fun k r0 => ((hf_13 k (by omega) (by omega)).trans rfl)))) mX1_forgetAll kX8_96 dX8_restore_37 (by omega) h33x_15 rfl (by decide) (Nat.le_of_ble_eq_true rfl) rfl (fun cq_17 hq_16 => ?_)
        obtain ⟨hH_18, hf_19⟩ := hq_16
        refine A_aload_n (q := 41) X dX8_restore_40 rfl rfl ?_
        refine A_getf (q := 44) X fX8_10 dX8_restore_41 (by omega) ((hf_19 _ (by omega)).trans ((hf_13 _ (by omega) (by omega)).trans h0)) rfl rfl ?_
        refine A_V0i (q := 47) X (c_X6_length hG (hT_12.keep ((hf_19 1 (by omega)).trans rfl) ((hf_19 2 (by omega)).trans rfl))) mX6_length kX8_100 dX8_restore_44 (by omega) (hT_12.keep ((hf_19 1 (by omega)).trans rfl) ((hf_19 2 (by omega)).trans rfl)).cell rfl (by decide) (Nat.le_of_ble_eq_true rfl) rfl (fun vq_22 cq_21 hq_20 => ?_)
        obtain ⟨rfl, hq_20⟩ := hq_20
        obtain rfl := hq_20.symm
        have e9 : fRestore k (T1.1, x, hs, T7.1, T9.1, o, sd) = (((T7.1.length : Nat) : Int), (T7.1, x, ([] : List (List Int)), T7.1, T9.1, o, sd)) := by unfold fRestore; rw [es]; dsimp only; rw [if_pos (by omega), if_neg (by omega)]
        exact A_ireturn X dX8_restore_47 ⟨by rw [e9], by rw [e9]; exact ⟨hN, ((hf_19 _ (by omega)).trans ((hf_13 _ (by omega) (by omega)).trans h0)), ⟨_, (hT_12.keep ((hf_19 1 (by omega)).trans rfl) ((hf_19 2 (by omega)).trans rfl)), rfl, z7⟩, hgs, ⟨_, (hT3.keep ((hf_19 3 (by omega)).trans ((hf_13 3 (by omega) (by omega)).trans rfl)) ((hf_19 4 (by omega)).trans ((hf_13 4 (by omega) (by omega)).trans rfl)))⟩, ⟨_, (hT5.keep ((hf_19 5 (by omega)).trans ((hf_13 5 (by omega) (by omega)).trans rfl)) ((hf_19 6 (by omega)).trans ((hf_13 6 (by omega) (by omega)).trans rfl)))⟩, ⟨_, (hT7.keep ((hf_19 7 (by omega)).trans ((hf_13 7 (by omega) (by omega)).trans rfl)) ((hf_19 8 (by omega)).trans ((hf_13 8 (by omega) (by omega)).trans rfl))), rfl, z7⟩, hg7, ⟨_, (hT9.keep ((hf_19 9 (by omega)).trans ((hf_13 9 (by omega) (by omega)).trans rfl)) ((hf_19 10 (by omega)).trans ((hf_13 10 (by omega) (by omega)).trans rfl))), rfl, z9⟩, hg9, ⟨_, _, _, (hO11.keep ((hf_19 11 (by omega)).trans ((hf_13 11 (by omega) (by omega)).trans rfl)) ((hf_19 12 (by omega)).trans ((hf_13 12 (by omega) (by omega)).trans rfl)) ((hf_19 13 (by omega)).trans ((hf_13 13 (by omega) (by omega)).trans rfl)))⟩, (hRd.keep (fun k r0 r1 => ((hf_19 k (by omega)).trans ((hf_13 k (by omega) (by omega)).trans rfl)))), ⟨_, _, _, _, _, (hM.keep (fun k r0 r1 => ((hf_19 k (by omega)).trans ((hf_13 k (by omega) (by omega)).trans rfl))))⟩, hH_18, (hX.keep ((hf_19 36 (by omega)).trans ((hf_13 36 (by omega) (by omega)).trans rfl)) ((hf_19 37 (by omega)).trans ((hf_13 37 (by omega) (by omega)).trans rfl))), (hB.keep ((hf_19 38 (by omega)).trans ((hf_13 38 (by omega) (by omega)).trans rfl)) ((hf_19 39 (by omega)).trans ((hf_13 39 (by omega) (by omega)).trans rfl)) ((hf_19 40 (by omega)).trans ((hf_13 40 (by omega) (by omega)).trans rfl)))⟩, (fun k n0 => ((hf_19 k (by omega)).trans ((hf_13 k (by omega) (by omega)).trans rfl)))⟩
      · refine A_bipush (q := 24) X dX8_restore_22 (by decide) rfl ?_
        have e9 : fRestore k (T1.1, x, hs, T7.1, T9.1, o, sd) = (-3, (T1.1, x, hs, T7.1, T9.1, o, sd)) := by unfold fRestore; rw [es]; dsimp only; rw [if_pos (by omega), if_pos (by omega)]
        exact A_ireturn X dX8_restore_24 ⟨by rw [e9], by rw [e9]; exact ⟨hN, h0, ⟨_, hT1, rfl, z1⟩, hgd, ⟨_, hT3⟩, ⟨_, hT5⟩, ⟨_, hT7, rfl, z7⟩, hg7, ⟨_, hT9, rfl, z9⟩, hg9, ⟨_, _, _, hO11⟩, hRd, ⟨_, _, _, _, _, hM⟩, hH, hX, hB⟩, (fun k n0 => rfl)⟩
    · rw [if_neg hk0] at hqs
      subst hqs
      have es : sltS (T1.1, x, hs, T7.1, T9.1, o, sd) k = T9.1 := by unfold sltS; rw [if_neg hk0]
      refine A_astore_n (q := 15) X dX8_restore_14 (by decide) (okP_s rfl rfl) rfl ?_
      refine A_aload_n (q := 16) X dX8_restore_15 rfl rfl ?_
      refine A_V0i (q := 19) X (c_X6_length hG hT9) mX6_length kX8_100 dX8_restore_16 (by omega) hT9.cell rfl (by decide) (Nat.le_of_ble_eq_true rfl) rfl (fun vq_25 cq_24 hq_23 => ?_)
      obtain ⟨rfl, hq_23⟩ := hq_23
      obtain rfl := hq_23.symm
      refine A_if_ne (q := 22) (t := 25) X dX8_restore_19 (by omega) rfl rfl (fun hb19 => ?_) (fun hb19 => ?_)
      · have hgs : Gd T9.1 := by rcases hg9 with h | h; (exact absurd (by rw [h]; rfl) (show ¬ T9.1.length = 0 by omega)); exact h
        refine A_aload_n (q := 26) X dX8_restore_25 rfl rfl ?_
        refine A_getf (q := 29) X fX8_10 dX8_restore_26 (by omega) h0 rfl rfl ?_
        refine A_aload_n (q := 30) X dX8_restore_29 rfl rfl ?_
        refine A_V1v (q := 33) X (c_X6_copyFrom hG hT1 hT9 (by omega) (by omega) (by omega) (by omega)) mX6_copyFrom kX8_128 dX8_restore_30 (by omega) hT1.cell rfl (by decide) (Nat.le_of_ble_eq_true rfl) rfl (fun cq_27 hq_26 => ?_)
        obtain ⟨hT_28, hf_29⟩ := hq_26
        refine A_aload_n (q := 34) X dX8_restore_33 rfl rfl ?_
        refine A_getf (q := 37) X fX8_52 dX8_restore_34 (by omega) ((hf_29 _ (by omega) (by omega)).trans h0) rfl rfl ?_
        obtain ⟨p_30, h33x_31⟩ := (hH.keep (fun k r0 => ((hf_29 k (by omega) (by omega)).trans rfl))).cell
        refine A_V0v (q := 40) X (c_X1_forgetAll hG hN (hH.keep (fun k r0 => ((hf_29 k (by omega) (by omega)).trans rfl)))) mX1_forgetAll kX8_96 dX8_restore_37 (by omega) h33x_31 rfl (by decide) (Nat.le_of_ble_eq_true rfl) rfl (fun cq_33 hq_32 => ?_)
        obtain ⟨hH_34, hf_35⟩ := hq_32
        refine A_aload_n (q := 41) X dX8_restore_40 rfl rfl ?_
        refine A_getf (q := 44) X fX8_10 dX8_restore_41 (by omega) ((hf_35 _ (by omega)).trans ((hf_29 _ (by omega) (by omega)).trans h0)) rfl rfl ?_
        refine A_V0i (q := 47) X (c_X6_length hG (hT_28.keep ((hf_35 1 (by omega)).trans rfl) ((hf_35 2 (by omega)).trans rfl))) mX6_length kX8_100 dX8_restore_44 (by omega) (hT_28.keep ((hf_35 1 (by omega)).trans rfl) ((hf_35 2 (by omega)).trans rfl)).cell rfl (by decide) (Nat.le_of_ble_eq_true rfl) rfl (fun vq_38 cq_37 hq_36 => ?_)
        obtain ⟨rfl, hq_36⟩ := hq_36
        obtain rfl := hq_36.symm
        have e9 : fRestore k (T1.1, x, hs, T7.1, T9.1, o, sd) = (((T9.1.length : Nat) : Int), (T9.1, x, ([] : List (List Int)), T7.1, T9.1, o, sd)) := by unfold fRestore; rw [es]; dsimp only; rw [if_pos (by omega), if_neg (by omega)]
        exact A_ireturn X dX8_restore_47 ⟨by rw [e9], by rw [e9]; exact ⟨hN, ((hf_35 _ (by omega)).trans ((hf_29 _ (by omega) (by omega)).trans h0)), ⟨_, (hT_28.keep ((hf_35 1 (by omega)).trans rfl) ((hf_35 2 (by omega)).trans rfl)), rfl, z9⟩, hgs, ⟨_, (hT3.keep ((hf_35 3 (by omega)).trans ((hf_29 3 (by omega) (by omega)).trans rfl)) ((hf_35 4 (by omega)).trans ((hf_29 4 (by omega) (by omega)).trans rfl)))⟩, ⟨_, (hT5.keep ((hf_35 5 (by omega)).trans ((hf_29 5 (by omega) (by omega)).trans rfl)) ((hf_35 6 (by omega)).trans ((hf_29 6 (by omega) (by omega)).trans rfl)))⟩, ⟨_, (hT7.keep ((hf_35 7 (by omega)).trans ((hf_29 7 (by omega) (by omega)).trans rfl)) ((hf_35 8 (by omega)).trans ((hf_29 8 (by omega) (by omega)).trans rfl))), rfl, z7⟩, hg7, ⟨_, (hT9.keep ((hf_35 9 (by omega)).trans ((hf_29 9 (by omega) (by omega)).trans rfl)) ((hf_35 10 (by omega)).trans ((hf_29 10 (by omega) (by omega)).trans rfl))), rfl, z9⟩, hg9, ⟨_, _, _, (hO11.keep ((hf_35 11 (by omega)).trans ((hf_29 11 (by omega) (by omega)).trans rfl)) ((hf_35 12 (by omega)).trans ((hf_29 12 (by omega) (by omega)).trans rfl)) ((hf_35 13 (by omega)).trans ((hf_29 13 (by omega) (by omega)).trans rfl)))⟩, (hRd.keep (fun k r0 r1 => ((hf_35 k (by omega)).trans ((hf_29 k (by omega) (by omega)).trans rfl)))), ⟨_, _, _, _, _, (hM.keep (fun k r0 r1 => ((hf_35 k (by omega)).trans ((hf_29 k (by omega) (by omega)).trans rfl))))⟩, hH_34, (hX.keep ((hf_35 36 (by omega)).trans ((hf_29 36 (by omega) (by omega)).trans rfl)) ((hf_35 37 (by omega)).trans ((hf_29 37 (by omega) (by omega)).trans rfl))), (hB.keep ((hf_35 38 (by omega)).trans ((hf_29 38 (by omega) (by omega)).trans rfl)) ((hf_35 39 (by omega)).trans ((hf_29 39 (by omega) (by omega)).trans rfl)) ((hf_35 40 (by omega)).trans ((hf_29 40 (by omega) (by omega)).trans rfl)))⟩, (fun k n0 => ((hf_35 k (by omega)).trans ((hf_29 k (by omega) (by omega)).trans rfl)))⟩
      · refine A_bipush (q := 24) X dX8_restore_22 (by decide) rfl ?_
        have e9 : fRestore k (T1.1, x, hs, T7.1, T9.1, o, sd) = (-3, (T1.1, x, hs, T7.1, T9.1, o, sd)) := by unfold fRestore; rw [es]; dsimp only; rw [if_pos (by omega), if_pos (by omega)]
        exact A_ireturn X dX8_restore_24 ⟨by rw [e9], by rw [e9]; exact ⟨hN, h0, ⟨_, hT1, rfl, z1⟩, hgd, ⟨_, hT3⟩, ⟨_, hT5⟩, ⟨_, hT7, rfl, z7⟩, hg7, ⟨_, hT9, rfl, z9⟩, hg9, ⟨_, _, _, hO11⟩, hRd, ⟨_, _, _, _, _, hM⟩, hH, hX, hB⟩, (fun k n0 => rfl)⟩
  · refine A_iconst (q := 8) X dX8_restore_7 rfl ?_
    have e9 : fRestore k (T1.1, x, hs, T7.1, T9.1, o, sd) = (-1, (T1.1, x, hs, T7.1, T9.1, o, sd)) := by unfold fRestore; dsimp only; rw [if_neg (by omega)]
    exact A_ireturn X dX8_restore_8 ⟨by rw [e9], by rw [e9]; exact ⟨hN, h0, ⟨_, hT1, rfl, z1⟩, hgd, ⟨_, hT3⟩, ⟨_, hT5⟩, ⟨_, hT7, rfl, z7⟩, hg7, ⟨_, hT9, rfl, z9⟩, hg9, ⟨_, _, _, hO11⟩, hRd, ⟨_, _, _, _, _, hM⟩, hH, hX, hB⟩, (fun k n0 => rfl)⟩
set_option maxRecDepth 100000 in
set_option maxHeartbeats 4000000 in
theorem c_X8_setSeed {l : Launch} {G : Gm} {c : HP} {tm x : List Int} {hs : List (List Int)} {s0 s1 : List Int} {o : List (Int × Int)} {sd : Int64} {sd2 : Int64} (hG : injG G) (hW : WX G c (tm, x, hs, s0, s1, o, sd)) : AMet l G yX8_setSeed cX8_setSeed 5 ((some .long)) (rmR 0 0) [.ref (G.1 0), .long (sd2)] c (Ql (fun v c' => v = sd ∧ WX G c' (tm, x, hs, s0, s1, o, sd2) ∧ (∀ k, 55 ≤ k → c' k = c k))) := by
  refine AMet.of (vl := [some (.ref (G.1 0)), some (.long (sd2)), none]) (by decide) hG (Nat.le_of_ble_eq_true rfl) rfl ?_
  intro K X
  have X : Fx l G K cX8_setSeed 5 RX8 ((some .long)) (rmR 0 0) := X
  have hW0 := hW
  obtain ⟨hN, h0, ⟨T1, hT1, eT1, z1⟩, hgd, ⟨T3, hT3⟩, ⟨T5, hT5⟩, ⟨T7, hT7, eT7, z7⟩, hg7, ⟨T9, hT9, eT9, z9⟩, hg9, ⟨n11, E11, D11, hO11⟩, hRd, ⟨P0, Q0, X0, ap0, pk0, hM⟩, hH, hX, hB⟩ := hW
  dsimp only at h0 eT1 hgd eT7 hg7 eT9 hg9 hH hX hB
  subst eT1 eT7 eT9
  obtain ⟨p33, h33⟩ := hH.cell
  have hl1 := hT1.len
  have hl7 := hT7.len
  have hl9 := hT9.len
  have hxl := hX.2.1
  refine A_aload_n (q := 1) X dX8_setSeed_0 rfl rfl ?_
  refine A_getf (q := 4) X fX8_70 dX8_setSeed_1 (by omega) h0 rfl rfl ?_
  refine A_lstore_n (q := 5) X dX8_setSeed_4 (by decide) (okP_n rfl) rfl ?_
  refine A_aload_n (q := 6) X dX8_setSeed_5 rfl rfl ?_
  refine A_lload_n (q := 7) X dX8_setSeed_6 rfl rfl ?_
  refine A_putf (q := 10) X pX8_70 dX8_setSeed_7 (by omega) h0 (Nat.le_of_ble_eq_true rfl) rfl rfl rfl ?_
  refine A_lload_n (q := 11) X dX8_setSeed_10 rfl rfl ?_
  exact A_lreturn X dX8_setSeed_11 ⟨rfl, ⟨hN, lk_eq, ⟨_, (hT1.keep (lk_ne (by omega) rfl) (lk_ne (by omega) rfl)), rfl, z1⟩, hgd, ⟨_, (hT3.keep (lk_ne (by omega) rfl) (lk_ne (by omega) rfl))⟩, ⟨_, (hT5.keep (lk_ne (by omega) rfl) (lk_ne (by omega) rfl))⟩, ⟨_, (hT7.keep (lk_ne (by omega) rfl) (lk_ne (by omega) rfl)), rfl, z7⟩, hg7, ⟨_, (hT9.keep (lk_ne (by omega) rfl) (lk_ne (by omega) rfl)), rfl, z9⟩, hg9, ⟨_, _, _, (hO11.keep (lk_ne (by omega) rfl) (lk_ne (by omega) rfl) (lk_ne (by omega) rfl))⟩, (hRd.keep (fun k r0 r1 => (lk_ne (by omega) rfl))), ⟨_, _, _, _, _, (hM.keep (fun k r0 r1 => (lk_ne (by omega) rfl)))⟩, (hH.keep (fun k r0 => (lk_ne (by omega) rfl))), (hX.keep (lk_ne (by omega) rfl) (lk_ne (by omega) rfl)), (hB.keep (lk_ne (by omega) rfl) (lk_ne (by omega) rfl) (lk_ne (by omega) rfl))⟩, (fun k n0 => (lk_ne (by omega) rfl))⟩
