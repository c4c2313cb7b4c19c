/-! THE MODEL's calls: names -/
set_option maxRecDepth 100000 in
set_option maxHeartbeats 4000000 in
theorem c_X9_nameAt {l : Launch} {G : Gm} {c : HP} {tm x : List Int} {hs : List (List Int)} {s0 s1 : List Int} {o : List (Int × Int)} {sd : Int64} {p : Int} (hG : injG G) (hpr : rg p) (hW : WM G c (tm, x, hs, s0, s1, o, sd)) : AMet l G yX9_nameAt cX9_nameAt 4 ((some .int)) (rmR 2 47) [.ref (G.1 55), .int (zI p)] c (Qi (fun v c' => v = zI (fName p (tm, x, hs, s0, s1, o, sd)).1 ∧ WM G c' (fName p (tm, x, hs, s0, s1, o, sd)).2 ∧ (∀ k, k < 55 → c' k = c k))) := by
  refine AMet.of (vl := [some (.ref (G.1 55)), some (.int (zI p))]) (by decide) hG (Nat.le_of_ble_eq_true rfl) rfl ?_
  intro K X
  have X : Fx l G K cX9_nameAt 4 RX9 ((some .int)) (rmR 2 47) := X
  obtain ⟨hN, ⟨th, tw, pk, h55, htw⟩, hX, hT, hgd, hR8, hR9, hO, hH, hV, hB, hSc, hWd⟩ := hW
  dsimp only at h55 hX hT hgd hH hV hB
  have hl0 := hT.len
  have hxl := hX.1
  have hhl := hH.1
  have hol := hB.1
  have hT0 := hT
  obtain ⟨ha0, -, F, h57, hS, hF⟩ := hT0
  have hSc0 := hSc
  obtain ⟨⟨Dq, h66q⟩, ⟨Oq, h67q⟩, ⟨Bq, h68q⟩⟩ := hSc0
  have hpos := hgd.pos
  refine A_aload_n (q := 1) X dX9_nameAt_0 rfl rfl ?_
  refine A_iconst (q := 2) X dX9_nameAt_1 rfl ?_
  refine A_putf (q := 5) X pX9_59 dX9_nameAt_2 (by omega) h55 (Nat.le_of_ble_eq_true rfl) rfl rfl rfl ?_
  refine A_iload_n (q := 6) X dX9_nameAt_5 rfl rfl ?_
  refine A_i2l (q := 7) X dX9_nameAt_6 rfl ?_
  refine A_lconst (q := 8) (v := 0) X dX9_nameAt_7 rfl rfl ?_
  refine A_aload_n (q := 9) X dX9_nameAt_8 rfl rfl ?_
  refine A_getf (q := 12) X fX9_13 dX9_nameAt_9 (by omega) lk_eq rfl rfl ?_
  refine A_sipush (q := 15) X dX9_nameAt_12 (by decide) rfl ?_
  refine A_iald (q := 16) (h := 57) 200 X dX9_nameAt_15 (by omega) (lk_ne (by omega) h57) (by omega) (by omega) (by decide) rfl ?_
  rw [hS]
  refine A_iconst (q := 17) X dX9_nameAt_16 rfl ?_
  refine A_isub (q := 18) X dX9_nameAt_17 rfl ?_
  refine A_i2l (q := 19) X dX9_nameAt_18 rfl ?_
  refine A_S3i (q := 22) X (c_inZ (a := p) (b := 0) (d := (((tm.length : Nat) : Int) - 1)) hG rfl (by decide) rfl (by omega) (by omega) (by omega)) mX9_in kX9_114 dX9_nameAt_19 (by decide) (Nat.le_of_ble_eq_true rfl) rfl (fun vq_3 cq_2 hq_1 => ?_)
  obtain ⟨rfl, hq_1⟩ := hq_1
  obtain rfl := hq_1.symm
  refine A_bne (q := 25) (t := 27) X dX9_nameAt_22 rfl rfl (fun hb22 => ?_) (fun hb22 => ?_)
  · refine A_aload_n (q := 28) X dX9_nameAt_27 rfl rfl ?_
    refine A_aload_n (q := 29) X dX9_nameAt_28 rfl rfl ?_
    refine A_getf (q := 32) X fX9_13 dX9_nameAt_29 (by omega) lk_eq rfl rfl ?_
    refine A_iconst (q := 33) X dX9_nameAt_32 rfl ?_
    refine A_aload_n (q := 34) X dX9_nameAt_33 rfl rfl ?_
    refine A_getf (q := 37) X fX9_13 dX9_nameAt_34 (by omega) lk_eq rfl rfl ?_
    refine A_sipush (q := 40) X dX9_nameAt_37 (by decide) rfl ?_
    refine A_iald (q := 41) (h := 57) 200 X dX9_nameAt_40 (by omega) (lk_ne (by omega) h57) (by omega) (by omega) (by decide) rfl ?_
    rw [hS]
    rw [show zI ((tm.length : Nat) : Int) = zI ((0 + tm.length : Nat) : Int) from congrArg zI (by omega), show zI 0 = zI ((0 : Nat) : Int) from rfl]
    refine A_V3v (q := 44) X (c_X9_layDepths (x := tm) (fm := 0) hG hN (lk_eq) ha0 (by decide) ((lk_ne (by omega) h57)) hgd.one (fun t ht => by have := hgd.tok ht; omega) (by omega) (fun i hi => by rw [Nat.zero_add]; exact hF i hi) ((lk_ne (by omega) h66q)) ((lk_ne (by omega) h67q)) ((lk_ne (by omega) h68q))) mX9_layDepths kX9_86 dX9_nameAt_41 (by omega) lk_eq rfl (by decide) (Nat.le_of_ble_eq_true rfl) rfl (fun cq_5 hq_4 => ?_)
    obtain ⟨⟨D2, h662, hD2, -⟩, ⟨O2, h672⟩, ⟨B2, h682⟩, hfl⟩ := hq_4
    have hSc3 : Sc G cq_5 := ⟨⟨_, h662⟩, ⟨_, h672⟩, ⟨_, h682⟩⟩
    have hD3 : ∀ j, j < tm.length → D2 j = ((dp tm j : Nat) : Int) := fun j hj => by have := hD2 j hj; rw [Nat.zero_add] at this; exact this
    refine A_aload_n (q := 45) X dX9_nameAt_44 rfl rfl ?_
    refine A_getf (q := 48) X fX9_13 dX9_nameAt_45 (by omega) ((hfl _ (by omega) (by omega) (by omega)).trans lk_eq) rfl rfl ?_
    refine A_iload_n (q := 49) X dX9_nameAt_48 rfl rfl ?_
    refine A_iald (q := 50) (h := 57) ((p).toNat) X dX9_nameAt_49 (by omega) ((hfl _ (by omega) (by omega) (by omega)).trans (lk_ne (by omega) h57)) (by omega) (by omega) (by decide) rfl ?_
    rw [hF p.toNat (by omega)]
    have htb := hgd.at (i := p.toNat) (by omega)
    refine A_istore_n (q := 51) X dX9_nameAt_50 (by decide) (okP_s rfl rfl) rfl ?_
    refine A_aload_n (q := 52) X dX9_nameAt_51 rfl rfl ?_
    refine A_getf (q := 55) X fX9_41 dX9_nameAt_52 (by omega) ((hfl _ (by omega) (by omega) (by omega)).trans lk_eq) rfl rfl ?_
    refine A_iload_n (q := 56) X dX9_nameAt_55 rfl rfl ?_
    refine A_iald (q := 57) (h := 66) ((p).toNat) X dX9_nameAt_56 (by omega) h662 (by omega) (by omega) (by decide) rfl ?_
    rw [hD3 p.toNat (by omega)]
    have hdl := dp_le tm p.toNat
    refine A_istore_n (q := 58) X dX9_nameAt_57 (by decide) (okP_s rfl rfl) rfl ?_
    refine A_iload_n (q := 59) X dX9_nameAt_58 rfl rfl ?_
    refine A_sipush (q := 62) X dX9_nameAt_59 (by decide) rfl ?_
    refine A_icmp_ne (q := 65) (t := 68) X dX9_nameAt_62 (by omega) (by decide) rfl rfl (fun hb62 => ?_) (fun hb62 => ?_)
    · refine A_iload_n (q := 69) X dX9_nameAt_68 rfl rfl ?_
      refine A_sipush (q := 72) X dX9_nameAt_69 (by decide) rfl ?_
      refine A_icmp_ne (q := 75) (t := 80) X dX9_nameAt_72 (by omega) (by decide) rfl rfl (fun hb72 => ?_) (fun hb72 => ?_)
      · refine A_iload_n (q := 81) X dX9_nameAt_80 rfl rfl ?_
        refine A_iload_n (q := 82) X dX9_nameAt_81 rfl rfl ?_
        refine A_icmp_ge (q := 85) (t := 96) X dX9_nameAt_82 (by omega) (by omega) rfl rfl (fun hb82 => ?_) (fun hb82 => ?_)
        · refine A_bipush (q := 98) X dX9_nameAt_96 (by decide) rfl ?_
          refine A_iload_n (q := 99) X dX9_nameAt_98 rfl rfl ?_
          refine A_iadd (q := 100) X dX9_nameAt_99 rfl ?_
          refine A_iload_n (q := 101) X dX9_nameAt_100 rfl rfl ?_
          refine A_isub (q := 102) X dX9_nameAt_101 rfl ?_
          have e9 : fName p (tm, x, hs, s0, s1, o, sd) = (((65 + (tm.getD p.toNat 0)) - (((dp tm p.toNat) : Nat) : Int)), (tm, x, hs, s0, s1, o, sd)) := by unfold fName nmZ; dsimp only; rw [if_pos (by omega)]; congr 1; split <;> (try split) <;> (try split) <;> omega
          exact A_ireturn X dX9_nameAt_102 ⟨by rw [e9], by rw [e9]; exact ⟨hN, ⟨_, _, _, ((hfl _ (by omega) (by omega) (by omega)).trans lk_eq), htw⟩, (hX.keep ((hfl 56 (by omega) (by omega) (by omega)).trans (lk_ne (by omega) rfl))), (hT.keep ((hfl 57 (by omega) (by omega) (by omega)).trans (lk_ne (by omega) rfl))), hgd, (hR8.keep ((hfl 58 (by omega) (by omega) (by omega)).trans (lk_ne (by omega) rfl))), (hR9.keep ((hfl 59 (by omega) (by omega) (by omega)).trans (lk_ne (by omega) rfl))), (hO.keep ((hfl 60 (by omega) (by omega) (by omega)).trans (lk_ne (by omega) rfl))), (hH.keep ((hfl 61 (by omega) (by omega) (by omega)).trans (lk_ne (by omega) rfl))), (hV.keep ((hfl 62 (by omega) (by omega) (by omega)).trans (lk_ne (by omega) rfl)) ((hfl 63 (by omega) (by omega) (by omega)).trans (lk_ne (by omega) rfl))), (hB.keep ((hfl 64 (by omega) (by omega) (by omega)).trans (lk_ne (by omega) rfl)) ((hfl 65 (by omega) (by omega) (by omega)).trans (lk_ne (by omega) rfl))), hSc3, (hWd.keep ((hfl 69 (by omega) (by omega) (by omega)).trans (lk_ne (by omega) rfl)) ((hfl 70 (by omega) (by omega) (by omega)).trans (lk_ne (by omega) rfl)) ((hfl 71 (by omega) (by omega) (by omega)).trans (lk_ne (by omega) rfl)))⟩, (fun k n0 => ((hfl k (by omega) (by omega) (by omega)).trans (lk_ne (by omega) rfl)))⟩
        · refine A_bipush (q := 87) X dX9_nameAt_85 (by decide) rfl ?_
          refine A_iload_n (q := 88) X dX9_nameAt_87 rfl rfl ?_
          refine A_iadd (q := 89) X dX9_nameAt_88 rfl ?_
          refine A_iconst (q := 90) X dX9_nameAt_89 rfl ?_
          refine A_isub (q := 91) X dX9_nameAt_90 rfl ?_
          refine A_iload_n (q := 92) X dX9_nameAt_91 rfl rfl ?_
          refine A_isub (q := 93) X dX9_nameAt_92 rfl ?_
          refine A_goto (q := 102) X dX9_nameAt_93 rfl ?_
          have e9 : fName p (tm, x, hs, s0, s1, o, sd) = ((((97 + (((dp tm p.toNat) : Nat) : Int)) - 1) - (tm.getD p.toNat 0)), (tm, x, hs, s0, s1, o, sd)) := by unfold fName nmZ; dsimp only; rw [if_pos (by omega)]; congr 1; split <;> (try split) <;> (try split) <;> omega
          exact A_ireturn X dX9_nameAt_102 ⟨by rw [e9], by rw [e9]; exact ⟨hN, ⟨_, _, _, ((hfl _ (by omega) (by omega) (by omega)).trans lk_eq), htw⟩, (hX.keep ((hfl 56 (by omega) (by omega) (by omega)).trans (lk_ne (by omega) rfl))), (hT.keep ((hfl 57 (by omega) (by omega) (by omega)).trans (lk_ne (by omega) rfl))), hgd, (hR8.keep ((hfl 58 (by omega) (by omega) (by omega)).trans (lk_ne (by omega) rfl))), (hR9.keep ((hfl 59 (by omega) (by omega) (by omega)).trans (lk_ne (by omega) rfl))), (hO.keep ((hfl 60 (by omega) (by omega) (by omega)).trans (lk_ne (by omega) rfl))), (hH.keep ((hfl 61 (by omega) (by omega) (by omega)).trans (lk_ne (by omega) rfl))), (hV.keep ((hfl 62 (by omega) (by omega) (by omega)).trans (lk_ne (by omega) rfl)) ((hfl 63 (by omega) (by omega) (by omega)).trans (lk_ne (by omega) rfl))), (hB.keep ((hfl 64 (by omega) (by omega) (by omega)).trans (lk_ne (by omega) rfl)) ((hfl 65 (by omega) (by omega) (by omega)).trans (lk_ne (by omega) rfl))), hSc3, (hWd.keep ((hfl 69 (by omega) (by omega) (by omega)).trans (lk_ne (by omega) rfl)) ((hfl 70 (by omega) (by omega) (by omega)).trans (lk_ne (by omega) rfl)) ((hfl 71 (by omega) (by omega) (by omega)).trans (lk_ne (by omega) rfl)))⟩, (fun k n0 => ((hfl k (by omega) (by omega) (by omega)).trans (lk_ne (by omega) rfl)))⟩
      · refine A_bipush (q := 77) X dX9_nameAt_75 (by decide) rfl ?_
        refine A_iload_n (q := 78) X dX9_nameAt_77 rfl rfl ?_
        refine A_iadd (q := 79) X dX9_nameAt_78 rfl ?_
        have e9 : fName p (tm, x, hs, s0, s1, o, sd) = ((97 + (((dp tm p.toNat) : Nat) : Int)), (tm, x, hs, s0, s1, o, sd)) := by unfold fName nmZ; dsimp only; rw [if_pos (by omega)]; congr 1; split <;> (try split) <;> (try split) <;> omega
        exact A_ireturn X dX9_nameAt_79 ⟨by rw [e9], by rw [e9]; exact ⟨hN, ⟨_, _, _, ((hfl _ (by omega) (by omega) (by omega)).trans lk_eq), htw⟩, (hX.keep ((hfl 56 (by omega) (by omega) (by omega)).trans (lk_ne (by omega) rfl))), (hT.keep ((hfl 57 (by omega) (by omega) (by omega)).trans (lk_ne (by omega) rfl))), hgd, (hR8.keep ((hfl 58 (by omega) (by omega) (by omega)).trans (lk_ne (by omega) rfl))), (hR9.keep ((hfl 59 (by omega) (by omega) (by omega)).trans (lk_ne (by omega) rfl))), (hO.keep ((hfl 60 (by omega) (by omega) (by omega)).trans (lk_ne (by omega) rfl))), (hH.keep ((hfl 61 (by omega) (by omega) (by omega)).trans (lk_ne (by omega) rfl))), (hV.keep ((hfl 62 (by omega) (by omega) (by omega)).trans (lk_ne (by omega) rfl)) ((hfl 63 (by omega) (by omega) (by omega)).trans (lk_ne (by omega) rfl))), (hB.keep ((hfl 64 (by omega) (by omega) (by omega)).trans (lk_ne (by omega) rfl)) ((hfl 65 (by omega) (by omega) (by omega)).trans (lk_ne (by omega) rfl))), hSc3, (hWd.keep ((hfl 69 (by omega) (by omega) (by omega)).trans (lk_ne (by omega) rfl)) ((hfl 70 (by omega) (by omega) (by omega)).trans (lk_ne (by omega) rfl)) ((hfl 71 (by omega) (by omega) (by omega)).trans (lk_ne (by omega) rfl)))⟩, (fun k n0 => ((hfl k (by omega) (by omega) (by omega)).trans (lk_ne (by omega) rfl)))⟩
    · refine A_bipush (q := 67) X dX9_nameAt_65 (by decide) rfl ?_
      have e9 : fName p (tm, x, hs, s0, s1, o, sd) = ((-9 : Int), (tm, x, hs, s0, s1, o, sd)) := by unfold fName nmZ; dsimp only; rw [if_pos (by omega)]; congr 1; split <;> (try split) <;> (try split) <;> omega
      exact A_ireturn X dX9_nameAt_67 ⟨by rw [e9], by rw [e9]; exact ⟨hN, ⟨_, _, _, ((hfl _ (by omega) (by omega) (by omega)).trans lk_eq), htw⟩, (hX.keep ((hfl 56 (by omega) (by omega) (by omega)).trans (lk_ne (by omega) rfl))), (hT.keep ((hfl 57 (by omega) (by omega) (by omega)).trans (lk_ne (by omega) rfl))), hgd, (hR8.keep ((hfl 58 (by omega) (by omega) (by omega)).trans (lk_ne (by omega) rfl))), (hR9.keep ((hfl 59 (by omega) (by omega) (by omega)).trans (lk_ne (by omega) rfl))), (hO.keep ((hfl 60 (by omega) (by omega) (by omega)).trans (lk_ne (by omega) rfl))), (hH.keep ((hfl 61 (by omega) (by omega) (by omega)).trans (lk_ne (by omega) rfl))), (hV.keep ((hfl 62 (by omega) (by omega) (by omega)).trans (lk_ne (by omega) rfl)) ((hfl 63 (by omega) (by omega) (by omega)).trans (lk_ne (by omega) rfl))), (hB.keep ((hfl 64 (by omega) (by omega) (by omega)).trans (lk_ne (by omega) rfl)) ((hfl 65 (by omega) (by omega) (by omega)).trans (lk_ne (by omega) rfl))), hSc3, (hWd.keep ((hfl 69 (by omega) (by omega) (by omega)).trans (lk_ne (by omega) rfl)) ((hfl 70 (by omega) (by omega) (by omega)).trans (lk_ne (by omega) rfl)) ((hfl 71 (by omega) (by omega) (by omega)).trans (lk_ne (by omega) rfl)))⟩, (fun k n0 => ((hfl k (by omega) (by omega) (by omega)).trans (lk_ne (by omega) rfl)))⟩
  · refine A_iconst (q := 26) X dX9_nameAt_25 rfl ?_
    have e9 : fName p (tm, x, hs, s0, s1, o, sd) = (-1, (tm, x, hs, s0, s1, o, sd)) := by unfold fName; dsimp only; rw [if_neg (by omega)]
    exact A_ireturn X dX9_nameAt_26 ⟨by rw [e9], by rw [e9]; exact ⟨hN, ⟨_, _, _, lk_eq, htw⟩, (hX.keep (lk_ne (by omega) rfl)), (hT.keep (lk_ne (by omega) rfl)), hgd, (hR8.keep (lk_ne (by omega) rfl)), (hR9.keep (lk_ne (by omega) rfl)), (hO.keep (lk_ne (by omega) rfl)), (hH.keep (lk_ne (by omega) rfl)), (hV.keep (lk_ne (by omega) rfl) (lk_ne (by omega) rfl)), (hB.keep (lk_ne (by omega) rfl) (lk_ne (by omega) rfl)), (hSc.keep (lk_ne (by omega) rfl) (lk_ne (by omega) rfl) (lk_ne (by omega) rfl)), (hWd.keep (lk_ne (by omega) rfl) (lk_ne (by omega) rfl) (lk_ne (by omega) rfl))⟩, (fun k n0 => (lk_ne (by omega) rfl))⟩
