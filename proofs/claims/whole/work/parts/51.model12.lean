/-! THE MODEL's calls: append -/
set_option maxRecDepth 100000 in
set_option maxHeartbeats 4000000 in
theorem c_X9_append {l : Launch} {G : Gm} {c : HP} {tm x : List Int} {hs : List (List Int)} {s0 s1 : List Int} {o : List (Int × Int)} {sd : Int64} {t : Int} (hG : injG G) (htr : rg t) (hW : WM G c (tm, x, hs, s0, s1, o, sd)) : AMet l G yX9_append cX9_append 2 ((some .int)) (rmR 1 25) [.ref (G.1 55), .int (zI t)] c (Qi (fun v c' => v = zI (fAppend t (tm, x, hs, s0, s1, o, sd)).1 ∧ WM G c' (fAppend t (tm, x, hs, s0, s1, o, sd)).2 ∧ (∀ k, k < 55 → c' k = c k))) := by
  refine AMet.of (vl := [some (.ref (G.1 55)), some (.int (zI t))]) (by decide) hG (Nat.le_of_ble_eq_true rfl) rfl ?_
  intro K X
  have X : Fx l G K cX9_append 2 RX9 ((some .int)) (rmR 1 25) := X
  obtain ⟨hN, ⟨th, tw, pk, h55, htw⟩, hX, hT, hgd, hR8, hR9, hO, hH, hV, hB, hSc, hWd⟩ := hW
  dsimp only at h55 hX hT hgd hH hV hB
  have hl0 := hT.len
  have hxl := hX.1
  have hhl := hH.1
  have hol := hB.1
  have hX0 := hX
  obtain ⟨-, hxv, FX, h56, hFX⟩ := hX0
  refine A_aload_n (q := 1) X dX9_append_0 rfl rfl ?_
  refine A_iconst (q := 2) X dX9_append_1 rfl ?_
  refine A_putf (q := 5) X pX9_59 dX9_append_2 (by omega) h55 (Nat.le_of_ble_eq_true rfl) rfl rfl rfl ?_
  refine A_iload_n (q := 6) X dX9_append_5 rfl rfl ?_
  refine A_i2l (q := 7) X dX9_append_6 rfl ?_
  refine A_lconst (q := 8) (v := 0) X dX9_append_7 rfl rfl ?_
  refine A_ldc2 (q := 11) X dX9_append_8 nX9_112 rfl ?_
  refine A_S3i (q := 14) X (c_inZ (a := t) (b := 0) (d := 255) hG rfl (by decide) (by decide) (by omega) (by omega) (by omega)) mX9_in kX9_114 dX9_append_11 (by decide) (Nat.le_of_ble_eq_true rfl) rfl (fun vq_3 cq_2 hq_1 => ?_)
  obtain ⟨rfl, hq_1⟩ := hq_1
  obtain rfl := hq_1.symm
  refine A_bne (q := 17) (t := 20) X dX9_append_14 rfl rfl (fun hb14 => ?_) (fun hb14 => ?_)
  · refine A_aload_n (q := 21) X dX9_append_20 rfl rfl ?_
    refine A_getf (q := 24) X fX9_118 dX9_append_21 (by omega) lk_eq rfl rfl ?_
    refine A_bipush (q := 26) X dX9_append_24 (by decide) rfl ?_
    refine A_icmp_ne (q := 29) (t := 32) X dX9_append_26 (by omega) (by decide) rfl rfl (fun hb26 => ?_) (fun hb26 => ?_)
    · refine A_aload_n (q := 33) X dX9_append_32 rfl rfl ?_
      refine A_getf (q := 36) X fX9_7 dX9_append_33 (by omega) lk_eq rfl rfl ?_
      refine A_aload_n (q := 37) X dX9_append_36 rfl rfl ?_
      refine A_getf (q := 40) X fX9_118 dX9_append_37 (by omega) lk_eq rfl rfl ?_
      refine A_iload_n (q := 41) X dX9_append_40 rfl rfl ?_
      refine A_iast (q := 42) (h := 56) (x.length) X dX9_append_41 (by omega) (lk_ne (by omega) h56) (by omega) (by omega) (by decide) rfl ?_
      refine A_aload_n (q := 43) X dX9_append_42 rfl rfl ?_
      refine A_dup (q := 44) X dX9_append_43 rfl rfl ?_
      refine A_getf (q := 47) X fX9_118 dX9_append_44 (by omega) (lk_ne (by omega) lk_eq) rfl rfl ?_
      refine A_iconst (q := 48) X dX9_append_47 rfl ?_
      refine A_iadd (q := 49) X dX9_append_48 rfl ?_
      refine A_putf (q := 52) X pX9_118 dX9_append_49 (by omega) (lk_ne (by omega) lk_eq) (Nat.le_of_ble_eq_true rfl) rfl rfl rfl ?_
      refine A_aload_n (q := 53) X dX9_append_52 rfl rfl ?_
      refine A_getf (q := 56) X fX9_118 dX9_append_53 (by omega) lk_eq rfl rfl ?_
      have hal : (x ++ [t]).length = x.length + 1 := by rw [List.length_append]; rfl
      have hX2 : ∀ c2 : HP, c2 56 = aI G 60 (va_up FX x.length t) → Tx9 G c2 (x ++ [t]) := fun c2 h2 => ⟨by omega, fun q hq => by rcases List.mem_append.mp hq with e | e; exact hxv q e; (rw [List.mem_singleton.mp e]; omega), _, h2, fun k hk => by by_cases e : k = x.length; (subst e; rw [getD_app_last]; exact lk_eq); exact lk_ne e ((hFX k (by omega)).trans (getD_app_lt (by omega)).symm)⟩
      have e9 : fAppend t (tm, x, hs, s0, s1, o, sd) = (((x.length : Nat) : Int) + 1, (tm, x ++ [t], hs, s0, s1, o, sd)) := by unfold fAppend; dsimp only; rw [if_neg (by omega), if_pos (by omega)]
      exact A_ireturn X dX9_append_56 ⟨by rw [e9], by rw [e9]; exact ⟨hN, ⟨_, _, _, (by rw [show (((x ++ [t]).length : Nat) : Int) = ((x.length : Nat) : Int) + 1 by omega]; exact lk_eq), htw⟩, (hX2 _ ((lk_ne (by omega) lk_eq))), (hT.keep (lk_ne (by omega) (lk_ne (by omega) (lk_ne (by omega) rfl)))), hgd, (hR8.keep (lk_ne (by omega) (lk_ne (by omega) (lk_ne (by omega) rfl)))), (hR9.keep (lk_ne (by omega) (lk_ne (by omega) (lk_ne (by omega) rfl)))), (hO.keep (lk_ne (by omega) (lk_ne (by omega) (lk_ne (by omega) rfl)))), (hH.keep (lk_ne (by omega) (lk_ne (by omega) (lk_ne (by omega) rfl)))), (hV.keep (lk_ne (by omega) (lk_ne (by omega) (lk_ne (by omega) rfl))) (lk_ne (by omega) (lk_ne (by omega) (lk_ne (by omega) rfl)))), (hB.keep (lk_ne (by omega) (lk_ne (by omega) (lk_ne (by omega) rfl))) (lk_ne (by omega) (lk_ne (by omega) (lk_ne (by omega) rfl)))), (hSc.keep (lk_ne (by omega) (lk_ne (by omega) (lk_ne (by omega) rfl))) (lk_ne (by omega) (lk_ne (by omega) (lk_ne (by omega) rfl))) (lk_ne (by omega) (lk_ne (by omega) (lk_ne (by omega) rfl)))), (hWd.keep (lk_ne (by omega) (lk_ne (by omega) (lk_ne (by omega) rfl))) (lk_ne (by omega) (lk_ne (by omega) (lk_ne (by omega) rfl))) (lk_ne (by omega) (lk_ne (by omega) (lk_ne (by omega) rfl))))⟩, (fun k n0 => (lk_ne (by omega) (lk_ne (by omega) (lk_ne (by omega) rfl))))⟩
    · refine A_bipush (q := 31) X dX9_append_29 (by decide) rfl ?_
      have e9 : fAppend t (tm, x, hs, s0, s1, o, sd) = (-4, (tm, x, hs, s0, s1, o, sd)) := by unfold fAppend; dsimp only; rw [if_neg (by omega), if_neg (by omega)]
      exact A_ireturn X dX9_append_31 ⟨by rw [e9], by rw [e9]; exact ⟨hN, ⟨_, _, _, lk_eq, htw⟩, (hX.keep (lk_ne (by omega) rfl)), (hT.keep (lk_ne (by omega) rfl)), hgd, (hR8.keep (lk_ne (by omega) rfl)), (hR9.keep (lk_ne (by omega) rfl)), (hO.keep (lk_ne (by omega) rfl)), (hH.keep (lk_ne (by omega) rfl)), (hV.keep (lk_ne (by omega) rfl) (lk_ne (by omega) rfl)), (hB.keep (lk_ne (by omega) rfl) (lk_ne (by omega) rfl)), (hSc.keep (lk_ne (by omega) rfl) (lk_ne (by omega) rfl) (lk_ne (by omega) rfl)), (hWd.keep (lk_ne (by omega) rfl) (lk_ne (by omega) rfl) (lk_ne (by omega) rfl))⟩, (fun k n0 => (lk_ne (by omega) rfl))⟩
  · refine A_bipush (q := 19) X dX9_append_17 (by decide) rfl ?_
    have e9 : fAppend t (tm, x, hs, s0, s1, o, sd) = (-2, (tm, x, hs, s0, s1, o, sd)) := by unfold fAppend; dsimp only; rw [if_pos (by omega)]
    exact A_ireturn X dX9_append_19 ⟨by rw [e9], by rw [e9]; exact ⟨hN, ⟨_, _, _, lk_eq, htw⟩, (hX.keep (lk_ne (by omega) rfl)), (hT.keep (lk_ne (by omega) rfl)), hgd, (hR8.keep (lk_ne (by omega) rfl)), (hR9.keep (lk_ne (by omega) rfl)), (hO.keep (lk_ne (by omega) rfl)), (hH.keep (lk_ne (by omega) rfl)), (hV.keep (lk_ne (by omega) rfl) (lk_ne (by omega) rfl)), (hB.keep (lk_ne (by omega) rfl) (lk_ne (by omega) rfl)), (hSc.keep (lk_ne (by omega) rfl) (lk_ne (by omega) rfl) (lk_ne (by omega) rfl)), (hWd.keep (lk_ne (by omega) rfl) (lk_ne (by omega) rfl) (lk_ne (by omega) rfl))⟩, (fun k n0 => (lk_ne (by omega) rfl))⟩
