/-! THE MODEL's calls: undo -/
set_option maxRecDepth 100000 in
set_option maxHeartbeats 4000000 in
theorem lp_X9_undo {l : Launch} {G : Gm} {K : Cx} {c0 : HP} {g : Nat} {t : List Int} {F : Nat → Int} {th ts obn tw pk : Int} {sd : Int64} (X : Fx l G K cX9_undo 2 RX9 ((some .int)) (rmR 0 0)) (hG : injG G) (hN : G.2.1 = 72) (h055 : c0 55 = ob9 G th ts ((g : Nat) : Int) obn sd tw pk) (h061 : c0 61 = aI G 2814 F) (hg : g ≤ 13) (hr : Hr F g t) : ∀ (n : Nat) (i : Nat) (H : Nat → Int) (c : HP), 201 - i < n → i ≤ 201 → c 57 = aI G 201 H → (∀ k, k < i → H k = F (201 * g + k)) → (∀ k, k ≠ 57 → c k = c0 k) → AW G K (Qi (fun v c' => v = zI ((g : Nat) : Int) ∧ Mt G c' 57 t ∧ (∀ k, k ≠ 57 → c' k = c0 k))) 27 (mkL [some (.ref (G.1 55)), some (.int (zI ((i : Nat) : Int)))]) [] c := by
  intro n
  induction n with
  | zero => intro i H c hmz; exact absurd hmz (Nat.not_lt_zero _)
  | succ n ih =>
    intro i H c hmz hi h57 hH hf0
    have h55 := (hf0 55 (by decide)).trans h055
    have h61 := (hf0 61 (by decide)).trans h061
    refine A_iload_n (q := 28) X dX9_undo_27 rfl rfl ?_
    refine A_sipush (q := 31) X dX9_undo_28 (by decide) rfl ?_
    refine A_icmp_ge (q := 34) (t := 61) X dX9_undo_31 (by omega) (by decide) rfl rfl (fun hb31 => ?_) (fun hb31 => ?_)
    · refine A_aload_n (q := 62) X dX9_undo_61 rfl rfl ?_
      refine A_getf (q := 65) X fX9_132 dX9_undo_62 (by omega) h55 rfl rfl ?_
      exact A_ireturn X dX9_undo_65 ⟨rfl, ⟨by omega, hr.1, H, h57, (hH 200 (by omega)).trans hr.2.1, fun k hk => (hH k (by have := hr.1; omega)).trans (hr.2.2 k hk)⟩, hf0⟩
    · refine A_aload_n (q := 35) X dX9_undo_34 rfl rfl ?_
      refine A_getf (q := 38) X fX9_13 dX9_undo_35 (by omega) h55 rfl rfl ?_
      refine A_iload_n (q := 39) X dX9_undo_38 rfl rfl ?_
      refine A_aload_n (q := 40) X dX9_undo_39 rfl rfl ?_
      refine A_getf (q := 43) X fX9_25 dX9_undo_40 (by omega) h55 rfl rfl ?_
      refine A_sipush (q := 46) X dX9_undo_43 (by decide) rfl ?_
      refine A_aload_n (q := 47) X dX9_undo_46 rfl rfl ?_
      refine A_getf (q := 50) X fX9_132 dX9_undo_47 (by omega) h55 rfl rfl ?_
      refine A_imul (q := 51) X dX9_undo_50 rfl ?_
      refine A_iload_n (q := 52) X dX9_undo_51 rfl rfl ?_
      refine A_iadd (q := 53) X dX9_undo_52 rfl ?_
      refine A_iald (q := 54) (h := 61) ((201 * (g)) + (i)) X dX9_undo_53 (by omega) h61 (by omega) (by omega) (by decide) rfl ?_
      refine A_iast (q := 55) (h := 57) (i) X dX9_undo_54 (by omega) h57 (by omega) (by omega) (by decide) rfl ?_
      refine A_iinc (q := 58) X dX9_undo_55 rfl (by decide) (okP_s rfl rfl) rfl ?_
      refine A_goto (q := 27) X dX9_undo_58 rfl ?_
      exact AW.loc (sS rfl (sZ rfl (by omega) sE)) (ih (i + 1) (va_up H i (F (201 * g + i))) _ (by omega) (by omega) lk_eq (fun k hk => by by_cases e : k = i; (subst e; exact lk_eq); exact lk_ne e (hH k (by omega))) (fun k n0 => lk_ne n0 (hf0 k n0)))
set_option maxRecDepth 100000 in
set_option maxHeartbeats 4000000 in
theorem c_X9_undo {l : Launch} {G : Gm} {c : HP} {tm x : List Int} {hs : List (List Int)} {s0 s1 : List Int} {o : List (Int × Int)} {sd : Int64} (hG : injG G) (hW : WM G c (tm, x, hs, s0, s1, o, sd)) : AMet l G yX9_undo cX9_undo 2 ((some .int)) (rmR 0 0) [.ref (G.1 55)] c (Qi (fun v c' => v = zI (fUndo (tm, x, hs, s0, s1, o, sd)).1 ∧ WM G c' (fUndo (tm, x, hs, s0, s1, o, sd)).2 ∧ (∀ k, k < 55 → c' k = c k))) := by
  refine AMet.of (vl := [some (.ref (G.1 55))]) (by decide) hG (Nat.le_of_ble_eq_true rfl) rfl ?_
  intro K X
  have X : Fx l G K cX9_undo 2 RX9 ((some .int)) (rmR 0 0) := X
  obtain ⟨hN, ⟨th, tw, pk, h55, htw⟩, hX, hT, hgd, hR8, hR9, hO, hH, hV, hB, hSc, hWd⟩ := hW
  dsimp only at h55 hX hT hgd hH hV hB
  have hl0 := hT.len
  have hxl := hX.1
  have hhl := hH.1
  have hol := hB.1
  have hH0 := hH
  obtain ⟨-, hHg, FH, h61, hHm⟩ := hH0
  have hT0 := hT
  obtain ⟨ha0, -, F, h57, hS, hF⟩ := hT0
  refine A_aload_n (q := 1) X dX9_undo_0 rfl rfl ?_
  refine A_iconst (q := 2) X dX9_undo_1 rfl ?_
  refine A_putf (q := 5) X pX9_59 dX9_undo_2 (by omega) h55 (Nat.le_of_ble_eq_true rfl) rfl rfl rfl ?_
  refine A_aload_n (q := 6) X dX9_undo_5 rfl rfl ?_
  refine A_getf (q := 9) X fX9_132 dX9_undo_6 (by omega) lk_eq rfl rfl ?_
  refine A_if_ne (q := 12) (t := 15) X dX9_undo_9 (by omega) rfl rfl (fun hb9 => ?_) (fun hb9 => ?_)
  · obtain ⟨t0, gs, rfl⟩ : ∃ t0 gs, hs = t0 :: gs := by cases hs with | nil => exact absurd rfl hb9 | cons t0 gs => exact ⟨t0, gs, rfl⟩
    have hcl : (t0 :: gs).length = gs.length + 1 := rfl
    refine A_aload_n (q := 16) X dX9_undo_15 rfl rfl ?_
    refine A_dup (q := 17) X dX9_undo_16 rfl rfl ?_
    refine A_getf (q := 20) X fX9_132 dX9_undo_17 (by omega) lk_eq rfl rfl ?_
    refine A_iconst (q := 21) X dX9_undo_20 rfl ?_
    refine A_isub (q := 22) X dX9_undo_21 rfl ?_
    refine A_putf (q := 25) X pX9_132 dX9_undo_22 (by omega) lk_eq (Nat.le_of_ble_eq_true rfl) rfl rfl rfl ?_
    refine A_iconst (q := 26) X dX9_undo_25 rfl ?_
    refine A_istore_n (q := 27) X dX9_undo_26 (by decide) (okP_s rfl rfl) rfl ?_
    refine AW.loc (sS rfl (sZ rfl rfl sE)) (AW.mono (lp_X9_undo (g := gs.length) (t := t0) X hG hN (by rw [show ((gs.length : Nat) : Int) = (((t0 :: gs).length : Nat) : Int) - 1 by omega]; exact lk_eq) ((lk_ne (by omega) (lk_ne (by omega) h61))) (by omega) hHm.1 _ 0 _ _ (Nat.lt_succ_self _) (Nat.zero_le _) ((lk_ne (by omega) (lk_ne (by omega) h57))) (fun k hk => absurd hk (Nat.not_lt_zero _)) (fun _ _ => rfl)) ?_)
    rintro r c9 ⟨v9, hv9, rfl, hT9, hf9⟩
    have hH9 : Hs9 G c9 gs := ⟨by omega, fun q hq => hHg q (List.mem_cons_of_mem _ hq), FH, (hf9 61 (by decide)).trans ((lk_ne (by omega) (lk_ne (by omega) h61))), hHm.2⟩
    have h559 : c9 55 = ob9 G 0 ((x.length : Nat) : Int) ((gs.length : Nat) : Int) ((o.length : Nat) : Int) sd tw pk := (by rw [show ((gs.length : Nat) : Int) = (((t0 :: gs).length : Nat) : Int) - 1 by omega]; exact (hf9 55 (by decide)).trans (lk_eq))
    exact ⟨_, hv9, rfl, (show WM G c9 (t0, x, gs, s0, s1, o, sd) from ⟨hN, ⟨_, _, _, h559, htw⟩, (hX.keep ((hf9 56 (by omega)).trans (lk_ne (by omega) (lk_ne (by omega) rfl)))), hT9, (hHg t0 List.mem_cons_self), (hR8.keep ((hf9 58 (by omega)).trans (lk_ne (by omega) (lk_ne (by omega) rfl)))), (hR9.keep ((hf9 59 (by omega)).trans (lk_ne (by omega) (lk_ne (by omega) rfl)))), (hO.keep ((hf9 60 (by omega)).trans (lk_ne (by omega) (lk_ne (by omega) rfl)))), hH9, (hV.keep ((hf9 62 (by omega)).trans (lk_ne (by omega) (lk_ne (by omega) rfl))) ((hf9 63 (by omega)).trans (lk_ne (by omega) (lk_ne (by omega) rfl)))), (hB.keep ((hf9 64 (by omega)).trans (lk_ne (by omega) (lk_ne (by omega) rfl))) ((hf9 65 (by omega)).trans (lk_ne (by omega) (lk_ne (by omega) rfl)))), (hSc.keep ((hf9 66 (by omega)).trans (lk_ne (by omega) (lk_ne (by omega) rfl))) ((hf9 67 (by omega)).trans (lk_ne (by omega) (lk_ne (by omega) rfl))) ((hf9 68 (by omega)).trans (lk_ne (by omega) (lk_ne (by omega) rfl)))), (hWd.keep ((hf9 69 (by omega)).trans (lk_ne (by omega) (lk_ne (by omega) rfl))) ((hf9 70 (by omega)).trans (lk_ne (by omega) (lk_ne (by omega) rfl))) ((hf9 71 (by omega)).trans (lk_ne (by omega) (lk_ne (by omega) rfl))))⟩), (fun k n0 => ((hf9 k (by omega)).trans (lk_ne (by omega) (lk_ne (by omega) rfl))))⟩
  · refine A_bipush (q := 14) X dX9_undo_12 (by decide) rfl ?_
    have eh : hs = [] := List.length_eq_zero_iff.mp (by omega)
    subst eh
    have e9 : fUndo (tm, x, [], s0, s1, o, sd) = (-3, (tm, x, [], s0, s1, o, sd)) := rfl
    exact A_ireturn X dX9_undo_14 ⟨by rw [e9], by rw [e9]; exact ⟨hN, ⟨_, _, _, lk_eq, htw⟩, (hX.keep (lk_ne (by omega) rfl)), (hT.keep (lk_ne (by omega) rfl)), hgd, (hR8.keep (lk_ne (by omega) rfl)), (hR9.keep (lk_ne (by omega) rfl)), (hO.keep (lk_ne (by omega) rfl)), (hH.keep (lk_ne (by omega) rfl)), (hV.keep (lk_ne (by omega) rfl) (lk_ne (by omega) rfl)), (hB.keep (lk_ne (by omega) rfl) (lk_ne (by omega) rfl)), (hSc.keep (lk_ne (by omega) rfl) (lk_ne (by omega) rfl) (lk_ne (by omega) rfl)), (hWd.keep (lk_ne (by omega) rfl) (lk_ne (by omega) rfl) (lk_ne (by omega) rfl))⟩, (fun k n0 => (lk_ne (by omega) rfl))⟩
