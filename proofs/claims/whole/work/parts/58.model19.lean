/-! THE MODEL's calls: slots -/
theorem sl_save {F U H T : Nat → Int} {sl : Nat} {s0 s1 tm : List Int} (hsl : sl ≤ 1) (h0 : SlR F U 0 s0) (h1 : SlR F U 1 s1) (hgd : Gd tm) (hl0 : tm.length ≤ 200) (hS : T 200 = ((tm.length : Nat) : Int)) (hF : ∀ k, k < tm.length → T k = tm.getD k 0) (hH : ∀ k, k < 201 → H (201 * sl + k) = T k) (hO : ∀ k, k < 201 * sl ∨ 201 * sl + 201 ≤ k → H k = F k) :
    SlR H (va_up U sl 1) 0 (if ((sl : Nat) : Int) = 0 then tm else s0) ∧ SlR H (va_up U sl 1) 1 (if ((sl : Nat) : Int) = 0 then s1 else tm) := by
  have hne : tm ≠ [] := fun e => by have := hgd.pos; rw [e] at this; exact absurd this (by decide)
  have hn : SlR H (va_up U sl 1) sl tm := ⟨by rw [if_neg hne]; exact lk_eq, fun _ => ⟨hl0, (hH 200 (by omega)).trans hS, fun k hk => (hH k (by omega)).trans (hF k hk)⟩, Or.inr hgd⟩
  rcases (show sl = 0 ∨ sl = 1 by omega) with rfl | rfl
  · rw [if_pos (by decide), if_pos (by decide)]
    exact ⟨hn, lk_ne (by decide) h1.1, fun q => Hr_of (h1.2.1 q) (fun k hk => hO _ (by omega)), h1.2.2⟩
  · rw [if_neg (by decide), if_neg (by decide)]
    exact ⟨⟨lk_ne (by decide) h0.1, fun q => Hr_of (h0.2.1 q) (fun k hk => hO _ (by omega)), h0.2.2⟩, hn⟩
theorem sl_get {F U : Nat → Int} {sl : Nat} {s0 s1 : List Int} (hsl : sl ≤ 1) (h0 : SlR F U 0 s0) (h1 : SlR F U 1 s1) : SlR F U sl (if ((sl : Nat) : Int) = 0 then s0 else s1) := by
  rcases (show sl = 0 ∨ sl = 1 by omega) with rfl | rfl
  · rw [if_pos (by decide)]; exact h0
  · rw [if_neg (by decide)]; exact h1
theorem SlR.b01 {F U : Nat → Int} {j : Nat} {s : List Int} (h : SlR F U j s) : U j = 0 ∨ U j = 1 := by
  have := h.1
  split at this <;> omega
theorem SlR.used {F U : Nat → Int} {j : Nat} {s : List Int} (h : SlR F U j s) (q : ¬ U j = 0) : s ≠ [] := fun e => q (h.1.trans (if_pos e))
theorem SlR.free {F U : Nat → Int} {j : Nat} {s : List Int} (h : SlR F U j s) (q : U j = 0) : s.length = 0 := by
  by_cases e : s = []
  · rw [e]; rfl
  · have := h.1
    rw [if_neg e] at this
    omega
set_option maxRecDepth 100000 in
set_option maxHeartbeats 4000000 in
theorem lp_X9_save {l : Launch} {G : Gm} {K : Cx} {c0 : HP} {sl : Nat} {tm : List Int} {F FS : Nat → Int} {th ts rmb obn tw pk : Int} {sd : Int64} (X : Fx l G K cX9_save 3 RX9 ((some .int)) (rmR 1 25)) (hG : injG G) (hN : G.2.1 = 72) (h055 : c0 55 = ob9 G th ts rmb obn sd tw pk) (h057 : c0 57 = aI G 201 F) (hsl : sl ≤ 1) (hS : F 200 = ((tm.length : Nat) : Int)) : ∀ (n : Nat) (i : Nat) (H : Nat → Int) (c : HP), 201 - i < n → i ≤ 201 → c 62 = aI G 402 H → (∀ k, k < i → H (201 * sl + k) = F k) → (∀ k, k < 201 * sl ∨ 201 * sl + 201 ≤ k → H k = FS k) → (∀ k, k ≠ 62 → c k = c0 k) → AW G K (Qi (fun v c' => v = zI ((tm.length : Nat) : Int) ∧ (∃ H', c' 62 = aI G 402 H' ∧ (∀ k, k < 201 → H' (201 * sl + k) = F k) ∧ (∀ k, k < 201 * sl ∨ 201 * sl + 201 ≤ k → H' k = FS k)) ∧ (∀ k, k ≠ 62 → c' k = c0 k))) 26 (mkL [some (.ref (G.1 55)), some (.int (zI ((sl : Nat) : Int))), some (.int (zI ((i : Nat) : Int)))]) [] c := by
  intro n
  induction n with
  | zero => intro i H c hmz; exact absurd hmz (Nat.not_lt_zero _)
  | succ n ih =>
    intro i H c hmz hi h62 hH hO hf0
    have h55 := (hf0 55 (by decide)).trans h055
    have h57 := (hf0 57 (by decide)).trans h057
    refine A_iload_n (q := 27) X dX9_save_26 rfl rfl ?_
    refine A_sipush (q := 30) X dX9_save_27 (by decide) rfl ?_
    refine A_icmp_ge (q := 33) (t := 57) X dX9_save_30 (by omega) (by decide) rfl rfl (fun hb30 => ?_) (fun hb30 => ?_)
    · refine A_aload_n (q := 58) X dX9_save_57 rfl rfl ?_
      refine A_getf (q := 61) X fX9_13 dX9_save_58 (by omega) h55 rfl rfl ?_
      refine A_sipush (q := 64) X dX9_save_61 (by decide) rfl ?_
      refine A_iald (q := 65) (h := 57) 200 X dX9_save_64 (by omega) h57 (by omega) (by omega) (by decide) rfl ?_
      rw [hS]
      exact A_ireturn X dX9_save_65 ⟨rfl, ⟨H, h62, fun k hk => hH k (by omega), hO⟩, hf0⟩
    · refine A_aload_n (q := 34) X dX9_save_33 rfl rfl ?_
      refine A_getf (q := 37) X fX9_28 dX9_save_34 (by omega) h55 rfl rfl ?_
      refine A_sipush (q := 40) X dX9_save_37 (by decide) rfl ?_
      refine A_iload_n (q := 41) X dX9_save_40 rfl rfl ?_
      refine A_imul (q := 42) X dX9_save_41 rfl ?_
      refine A_iload_n (q := 43) X dX9_save_42 rfl rfl ?_
      refine A_iadd (q := 44) X dX9_save_43 rfl ?_
      rw [show zI (201 * ((sl : Nat) : Int) + ((i : Nat) : Int)) = zI ((201 * sl + i : Nat) : Int) from congrArg zI (by omega)]
      refine A_aload_n (q := 45) X dX9_save_44 rfl rfl ?_
      refine A_getf (q := 48) X fX9_13 dX9_save_45 (by omega) h55 rfl rfl ?_
      refine A_iload_n (q := 49) X dX9_save_48 rfl rfl ?_
      refine A_iald (q := 50) (h := 57) (i) X dX9_save_49 (by omega) h57 (by omega) (by omega) (by decide) rfl ?_
      refine A_iast (q := 51) (h := 62) ((201 * sl + i)) X dX9_save_50 (by omega) h62 (by omega) (by omega) (by decide) rfl ?_
      refine A_iinc (q := 54) X dX9_save_51 rfl (by decide) (okP_s rfl rfl) rfl ?_
      refine A_goto (q := 26) X dX9_save_54 rfl ?_
      exact AW.loc (sS rfl (sS rfl (sZ rfl (by omega) sE))) (ih (i + 1) _ _ (by omega) (by omega) lk_eq (fun k hk => by by_cases e : k = i; (subst e; exact lk_eq); exact lk_ne (by omega) (hH k (by omega))) (fun k hk => lk_ne (by omega) (hO k hk)) (fun k n0 => lk_ne n0 (hf0 k n0)))
set_option maxRecDepth 100000 in
set_option maxHeartbeats 4000000 in
theorem c_X9_save {l : Launch} {G : Gm} {c : HP} {tm x : List Int} {hs : List (List Int)} {s0 s1 : List Int} {o : List (Int × Int)} {sd : Int64} {p : Int} (hG : injG G) (hpr : rg p) (hW : WM G c (tm, x, hs, s0, s1, o, sd)) : AMet l G yX9_save cX9_save 3 ((some .int)) (rmR 1 25) [.ref (G.1 55), .int (zI p)] c (Qi (fun v c' => v = zI (fSave p (tm, x, hs, s0, s1, o, sd)).1 ∧ WM G c' (fSave p (tm, x, hs, s0, s1, o, sd)).2 ∧ (∀ k, k < 55 → c' k = c k))) := by
  refine AMet.of (vl := [some (.ref (G.1 55)), some (.int (zI p))]) (by decide) hG (Nat.le_of_ble_eq_true rfl) rfl ?_
  intro K X
  have X : Fx l G K cX9_save 3 RX9 ((some .int)) (rmR 1 25) := X
  obtain ⟨hN, ⟨th, tw, pk, h55, htw⟩, hX, hT, hgd, hR8, hR9, hO, hH, hV, hB, hSc, hWd⟩ := hW
  dsimp only at h55 hX hT hgd hH hV hB
  have hl0 := hT.len
  have hxl := hX.1
  have hhl := hH.1
  have hol := hB.1
  have hT0 := hT
  obtain ⟨ha0, -, F, h57, hS, hF⟩ := hT0
  have hV0 := hV
  obtain ⟨FS, U, h62, h63, hV1, hV2⟩ := hV0
  refine A_aload_n (q := 1) X dX9_save_0 rfl rfl ?_
  refine A_iconst (q := 2) X dX9_save_1 rfl ?_
  refine A_putf (q := 5) X pX9_59 dX9_save_2 (by omega) h55 (Nat.le_of_ble_eq_true rfl) rfl rfl rfl ?_
  refine A_iload_n (q := 6) X dX9_save_5 rfl rfl ?_
  refine A_i2l (q := 7) X dX9_save_6 rfl ?_
  refine A_lconst (q := 8) (v := 0) X dX9_save_7 rfl rfl ?_
  refine A_lconst (q := 9) (v := 1) X dX9_save_8 rfl rfl ?_
  refine A_S3i (q := 12) X (c_inZ (a := p) (b := 0) (d := 1) hG rfl (by decide) (by decide) (by omega) (by omega) (by omega)) mX9_in kX9_114 dX9_save_9 (by decide) (Nat.le_of_ble_eq_true rfl) rfl (fun vq_3 cq_2 hq_1 => ?_)
  obtain ⟨rfl, hq_1⟩ := hq_1
  obtain rfl := hq_1.symm
  refine A_bne (q := 15) (t := 17) X dX9_save_12 rfl rfl (fun hb12 => ?_) (fun hb12 => ?_)
  · obtain ⟨sl, rfl⟩ : ∃ sl : Nat, p = ((sl : Nat) : Int) := ⟨p.toNat, by omega⟩
    have hsl : sl ≤ 1 := by omega
    have hq : SlR FS U sl (sltS (tm, x, hs, s0, s1, o, sd) ((sl : Nat) : Int)) := sl_get hsl hV1 hV2
    obtain ⟨q, hs9⟩ : ∃ q, sltS (tm, x, hs, s0, s1, o, sd) ((sl : Nat) : Int) = q := ⟨_, rfl⟩
    rw [hs9] at hq
    have hU01 := hq.b01
    refine A_aload_n (q := 18) X dX9_save_17 rfl rfl ?_
    refine A_getf (q := 21) X fX9_31 dX9_save_18 (by omega) lk_eq rfl rfl ?_
    refine A_iload_n (q := 22) X dX9_save_21 rfl rfl ?_
    refine A_iconst (q := 23) X dX9_save_22 rfl ?_
    refine A_zast (q := 24) (h := 63) (sl) X dX9_save_23 (by omega) (lk_ne (by omega) h63) (by omega) (by omega) (by decide) (Or.inr rfl) rfl ?_
    refine A_iconst (q := 25) X dX9_save_24 rfl ?_
    refine A_istore_n (q := 26) X dX9_save_25 (by decide) (okP_s rfl rfl) rfl ?_
    refine AW.loc (sS rfl (sS rfl (sZ rfl rfl sE))) (AW.mono (lp_X9_save (sl := sl) (tm := tm) (FS := FS) X hG hN ((lk_ne (by omega) lk_eq)) ((lk_ne (by omega) (lk_ne (by omega) h57))) hsl hS _ 0 FS _ (Nat.lt_succ_self _) (Nat.zero_le _) ((lk_ne (by omega) (lk_ne (by omega) h62))) (fun k hk => absurd hk (Nat.not_lt_zero _)) (fun _ _ => rfl) (fun _ _ => rfl)) ?_)
    rintro r c9 ⟨v9, hv9, rfl, ⟨H9, h629, hH9, hO9⟩, hf9⟩
    have hsv := sl_save hsl hV1 hV2 hgd hl0 hS hF hH9 hO9
    have hV9 : Sl9 G c9 (if ((sl : Nat) : Int) = 0 then tm else s0) (if ((sl : Nat) : Int) = 0 then s1 else tm) := ⟨H9, _, h629, (hf9 63 (by decide)).trans (lk_eq), hsv.1, hsv.2⟩
    have e9 : fSave ((sl : Nat) : Int) (tm, x, hs, s0, s1, o, sd) = (((tm.length : Nat) : Int), (tm, x, hs, (if ((sl : Nat) : Int) = 0 then tm else s0), (if ((sl : Nat) : Int) = 0 then s1 else tm), o, sd)) := by unfold fSave; rw [if_pos (by omega)]
    exact ⟨_, hv9, by rw [e9], by rw [e9]; exact ⟨hN, ⟨_, _, _, ((hf9 _ (by omega)).trans (lk_ne (by omega) lk_eq)), htw⟩, (hX.keep ((hf9 56 (by omega)).trans (lk_ne (by omega) (lk_ne (by omega) rfl)))), (hT.keep ((hf9 57 (by omega)).trans (lk_ne (by omega) (lk_ne (by omega) rfl)))), hgd, (hR8.keep ((hf9 58 (by omega)).trans (lk_ne (by omega) (lk_ne (by omega) rfl)))), (hR9.keep ((hf9 59 (by omega)).trans (lk_ne (by omega) (lk_ne (by omega) rfl)))), (hO.keep ((hf9 60 (by omega)).trans (lk_ne (by omega) (lk_ne (by omega) rfl)))), (hH.keep ((hf9 61 (by omega)).trans (lk_ne (by omega) (lk_ne (by omega) rfl)))), hV9, (hB.keep ((hf9 64 (by omega)).trans (lk_ne (by omega) (lk_ne (by omega) rfl))) ((hf9 65 (by omega)).trans (lk_ne (by omega) (lk_ne (by omega) rfl)))), (hSc.keep ((hf9 66 (by omega)).trans (lk_ne (by omega) (lk_ne (by omega) rfl))) ((hf9 67 (by omega)).trans (lk_ne (by omega) (lk_ne (by omega) rfl))) ((hf9 68 (by omega)).trans (lk_ne (by omega) (lk_ne (by omega) rfl)))), (hWd.keep ((hf9 69 (by omega)).trans (lk_ne (by omega) (lk_ne (by omega) rfl))) ((hf9 70 (by omega)).trans (lk_ne (by omega) (lk_ne (by omega) rfl))) ((hf9 71 (by omega)).trans (lk_ne (by omega) (lk_ne (by omega) rfl))))⟩, (fun k n0 => ((hf9 k (by omega)).trans (lk_ne (by omega) (lk_ne (by omega) rfl))))⟩
  · refine A_iconst (q := 16) X dX9_save_15 rfl ?_
    have e9 : fSave p (tm, x, hs, s0, s1, o, sd) = (-1, (tm, x, hs, s0, s1, o, sd)) := by unfold fSave; rw [if_neg (by omega)]
    exact A_ireturn X dX9_save_16 ⟨by rw [e9], by rw [e9]; exact ⟨hN, ⟨_, _, _, lk_eq, htw⟩, (hX.keep (lk_ne (by omega) rfl)), (hT.keep (lk_ne (by omega) rfl)), hgd, (hR8.keep (lk_ne (by omega) rfl)), (hR9.keep (lk_ne (by omega) rfl)), (hO.keep (lk_ne (by omega) rfl)), (hH.keep (lk_ne (by omega) rfl)), (hV.keep (lk_ne (by omega) rfl) (lk_ne (by omega) rfl)), (hB.keep (lk_ne (by omega) rfl) (lk_ne (by omega) rfl)), (hSc.keep (lk_ne (by omega) rfl) (lk_ne (by omega) rfl) (lk_ne (by omega) rfl)), (hWd.keep (lk_ne (by omega) rfl) (lk_ne (by omega) rfl) (lk_ne (by omega) rfl))⟩, (fun k n0 => (lk_ne (by omega) rfl))⟩
set_option maxRecDepth 100000 in
set_option maxHeartbeats 4000000 in
theorem c_X9_restore {l : Launch} {G : Gm} {c : HP} {tm x : List Int} {hs : List (List Int)} {s0 s1 : List Int} {o : List (Int × Int)} {sd : Int64} {p : Int} (hG : injG G) (hpr : rg p) (hW : WM G c (tm, x, hs, s0, s1, o, sd)) : AMet l G yX9_restore cX9_restore 2 ((some .int)) (rmR 1 25) [.ref (G.1 55), .int (zI p)] c (Qi (fun v c' => v = zI (fRestore p (tm, x, hs, s0, s1, o, sd)).1 ∧ WM G c' (fRestore p (tm, x, hs, s0, s1, o, sd)).2 ∧ (∀ k, k < 55 → c' k = c k))) := by
  refine AMet.of (vl := [some (.ref (G.1 55)), some (.int (zI p))]) (by decide) hG (Nat.le_of_ble_eq_true rfl) rfl ?_
  intro K X
  have X : Fx l G K cX9_restore 2 RX9 ((some .int)) (rmR 1 25) := X
  obtain ⟨hN, ⟨th, tw, pk, h55, htw⟩, hX, hT, hgd, hR8, hR9, hO, hH, hV, hB, hSc, hWd⟩ := hW
  dsimp only at h55 hX hT hgd hH hV hB
  have hl0 := hT.len
  have hxl := hX.1
  have hhl := hH.1
  have hol := hB.1
  have hH0 := hH
  obtain ⟨-, hHg, FH, h61, hHm⟩ := hH0
  have hV0 := hV
  obtain ⟨FS, U, h62, h63, hV1, hV2⟩ := hV0
  refine A_aload_n (q := 1) X dX9_restore_0 rfl rfl ?_
  refine A_iconst (q := 2) X dX9_restore_1 rfl ?_
  refine A_putf (q := 5) X pX9_59 dX9_restore_2 (by omega) h55 (Nat.le_of_ble_eq_true rfl) rfl rfl rfl ?_
  refine A_iload_n (q := 6) X dX9_restore_5 rfl rfl ?_
  refine A_i2l (q := 7) X dX9_restore_6 rfl ?_
  refine A_lconst (q := 8) (v := 0) X dX9_restore_7 rfl rfl ?_
  refine A_lconst (q := 9) (v := 1) X dX9_restore_8 rfl rfl ?_
  refine A_S3i (q := 12) X (c_inZ (a := p) (b := 0) (d := 1) hG rfl (by decide) (by decide) (by omega) (by omega) (by omega)) mX9_in kX9_114 dX9_restore_9 (by decide) (Nat.le_of_ble_eq_true rfl) rfl (fun vq_3 cq_2 hq_1 => ?_)
  obtain ⟨rfl, hq_1⟩ := hq_1
  obtain rfl := hq_1.symm
  refine A_bne (q := 15) (t := 17) X dX9_restore_12 rfl rfl (fun hb12 => ?_) (fun hb12 => ?_)
  · obtain ⟨sl, rfl⟩ : ∃ sl : Nat, p = ((sl : Nat) : Int) := ⟨p.toNat, by omega⟩
    have hsl : sl ≤ 1 := by omega
    have hq : SlR FS U sl (sltS (tm, x, hs, s0, s1, o, sd) ((sl : Nat) : Int)) := sl_get hsl hV1 hV2
    obtain ⟨q, hs9⟩ : ∃ q, sltS (tm, x, hs, s0, s1, o, sd) ((sl : Nat) : Int) = q := ⟨_, rfl⟩
    rw [hs9] at hq
    have hU01 := hq.b01
    refine A_aload_n (q := 18) X dX9_restore_17 rfl rfl ?_
    refine A_getf (q := 21) X fX9_31 dX9_restore_18 (by omega) lk_eq rfl rfl ?_
    refine A_iload_n (q := 22) X dX9_restore_21 rfl rfl ?_
    refine A_zald (q := 23) (h := 63) (sl) X dX9_restore_22 (by omega) (lk_ne (by omega) h63) (by omega) (by omega) (by decide) rfl ?_
    refine A_if_ne (q := 26) (t := 29) X dX9_restore_23 (by omega) rfl rfl (fun hb23 => ?_) (fun hb23 => ?_)
    · have hqn := hq.used hb23
      obtain ⟨hql, hqS, hqF⟩ := hq.2.1 hqn
      have hgq : Gd q := hq.2.2.resolve_left hqn
      have hqp := hgq.pos
      refine A_aload_n (q := 30) X dX9_restore_29 rfl rfl ?_
      refine A_iload_n (q := 31) X dX9_restore_30 rfl rfl ?_
      refine A_aload_n (q := 32) X dX9_restore_31 rfl rfl ?_
      refine A_getf (q := 35) X fX9_13 dX9_restore_32 (by omega) lk_eq rfl rfl ?_
      refine A_V2v (q := 38) X (c_X9_takeSlot (sl := sl) (t := q) hG hN (lk_eq) (hT.keep (lk_ne (by omega) rfl)).mr (by decide) ((lk_ne (by omega) h62)) hsl hql hqS hqF) mX9_takeSlot kX9_149 dX9_restore_35 (by omega) lk_eq rfl (by decide) (Nat.le_of_ble_eq_true rfl) rfl (fun cq_5 hq_4 => ?_)
      obtain ⟨hTq, hfq⟩ := hq_4
      obtain ⟨-, -, Fq, hcq, hSq, hFq⟩ := (id hTq : Mt G _ 57 q)
      refine A_aload_n (q := 39) X dX9_restore_38 rfl rfl ?_
      refine A_iconst (q := 40) X dX9_restore_39 rfl ?_
      refine A_putf (q := 43) X pX9_132 dX9_restore_40 (by omega) ((hfq _ (by omega)).trans lk_eq) (Nat.le_of_ble_eq_true rfl) rfl rfl rfl ?_
      refine A_aload_n (q := 44) X dX9_restore_43 rfl rfl ?_
      refine A_getf (q := 47) X fX9_13 dX9_restore_44 (by omega) lk_eq rfl rfl ?_
      refine A_sipush (q := 50) X dX9_restore_47 (by decide) rfl ?_
      refine A_iald (q := 51) (h := 57) 200 X dX9_restore_50 (by omega) (lk_ne (by omega) hcq) (by omega) (by omega) (by decide) rfl ?_
      rw [hSq]
      have hH0 : ∀ c2 : HP, c2 61 = c 61 → Hs9 G c2 [] := fun c2 e => ⟨by decide, fun t ht => absurd ht (List.not_mem_nil), FH, e.trans h61, trivial⟩
      have e9 : fRestore ((sl : Nat) : Int) (tm, x, hs, s0, s1, o, sd) = (((q.length : Nat) : Int), (q, x, [], s0, s1, o, sd)) := by unfold fRestore; rw [if_pos (by omega), hs9, if_neg (by omega)]
      exact A_ireturn X dX9_restore_51 ⟨by rw [e9], by rw [e9]; exact ⟨hN, ⟨_, _, _, lk_eq, htw⟩, (hX.keep (lk_ne (by omega) ((hfq 56 (by omega)).trans (lk_ne (by omega) rfl)))), (hTq.keep (lk_ne (by omega) rfl)), hgq, (hR8.keep (lk_ne (by omega) ((hfq 58 (by omega)).trans (lk_ne (by omega) rfl)))), (hR9.keep (lk_ne (by omega) ((hfq 59 (by omega)).trans (lk_ne (by omega) rfl)))), (hO.keep (lk_ne (by omega) ((hfq 60 (by omega)).trans (lk_ne (by omega) rfl)))), (hH0 _ ((lk_ne (by omega) ((hfq 61 (by omega)).trans (lk_ne (by omega) rfl))))), (hV.keep (lk_ne (by omega) ((hfq 62 (by omega)).trans (lk_ne (by omega) rfl))) (lk_ne (by omega) ((hfq 63 (by omega)).trans (lk_ne (by omega) rfl)))), (hB.keep (lk_ne (by omega) ((hfq 64 (by omega)).trans (lk_ne (by omega) rfl))) (lk_ne (by omega) ((hfq 65 (by omega)).trans (lk_ne (by omega) rfl)))), (hSc.keep (lk_ne (by omega) ((hfq 66 (by omega)).trans (lk_ne (by omega) rfl))) (lk_ne (by omega) ((hfq 67 (by omega)).trans (lk_ne (by omega) rfl))) (lk_ne (by omega) ((hfq 68 (by omega)).trans (lk_ne (by omega) rfl)))), (hWd.keep (lk_ne (by omega) ((hfq 69 (by omega)).trans (lk_ne (by omega) rfl))) (lk_ne (by omega) ((hfq 70 (by omega)).trans (lk_ne (by omega) rfl))) (lk_ne (by omega) ((hfq 71 (by omega)).trans (lk_ne (by omega) rfl))))⟩, (fun k n0 => (lk_ne (by omega) ((hfq k (by omega)).trans (lk_ne (by omega) rfl))))⟩
    · have hqz := hq.free (by omega)
      refine A_bipush (q := 28) X dX9_restore_26 (by decide) rfl ?_
      have e9 : fRestore ((sl : Nat) : Int) (tm, x, hs, s0, s1, o, sd) = (-3, (tm, x, hs, s0, s1, o, sd)) := by unfold fRestore; rw [if_pos (by omega), hs9, if_pos hqz]
      exact A_ireturn X dX9_restore_28 ⟨by rw [e9], by rw [e9]; exact ⟨hN, ⟨_, _, _, lk_eq, htw⟩, (hX.keep (lk_ne (by omega) rfl)), (hT.keep (lk_ne (by omega) rfl)), hgd, (hR8.keep (lk_ne (by omega) rfl)), (hR9.keep (lk_ne (by omega) rfl)), (hO.keep (lk_ne (by omega) rfl)), (hH.keep (lk_ne (by omega) rfl)), (hV.keep (lk_ne (by omega) rfl) (lk_ne (by omega) rfl)), (hB.keep (lk_ne (by omega) rfl) (lk_ne (by omega) rfl)), (hSc.keep (lk_ne (by omega) rfl) (lk_ne (by omega) rfl) (lk_ne (by omega) rfl)), (hWd.keep (lk_ne (by omega) rfl) (lk_ne (by omega) rfl) (lk_ne (by omega) rfl))⟩, (fun k n0 => (lk_ne (by omega) rfl))⟩
  · refine A_iconst (q := 16) X dX9_restore_15 rfl ?_
    have e9 : fRestore p (tm, x, hs, s0, s1, o, sd) = (-1, (tm, x, hs, s0, s1, o, sd)) := by unfold fRestore; rw [if_neg (by omega)]
    exact A_ireturn X dX9_restore_16 ⟨by rw [e9], by rw [e9]; exact ⟨hN, ⟨_, _, _, lk_eq, htw⟩, (hX.keep (lk_ne (by omega) rfl)), (hT.keep (lk_ne (by omega) rfl)), hgd, (hR8.keep (lk_ne (by omega) rfl)), (hR9.keep (lk_ne (by omega) rfl)), (hO.keep (lk_ne (by omega) rfl)), (hH.keep (lk_ne (by omega) rfl)), (hV.keep (lk_ne (by omega) rfl) (lk_ne (by omega) rfl)), (hB.keep (lk_ne (by omega) rfl) (lk_ne (by omega) rfl)), (hSc.keep (lk_ne (by omega) rfl) (lk_ne (by omega) rfl) (lk_ne (by omega) rfl)), (hWd.keep (lk_ne (by omega) rfl) (lk_ne (by omega) rfl) (lk_ne (by omega) rfl))⟩, (fun k n0 => (lk_ne (by omega) rfl))⟩
