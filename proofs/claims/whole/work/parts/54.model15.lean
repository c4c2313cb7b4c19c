/-! THE MODEL's calls: free variables -/
set_option maxRecDepth 100000 in
set_option maxHeartbeats 4000000 in
theorem lp_X9_freeVariables {l : Launch} {G : Gm} {K : Cx} {c : HP} {tm : List Int} {F D : Nat → Int} {th ts rmb obn tw pk : Int} {sd : Int64} (X : Fx l G K cX9_freeVariables 3 RX9 ((some .int)) (rmR 2 47)) (hG : injG G) (hN : G.2.1 = 72) (h55 : c 55 = ob9 G th ts rmb obn sd tw pk) (h57 : c 57 = aI G 201 F) (hl0 : tm.length ≤ 200) (hS : F 200 = ((tm.length : Nat) : Int)) (hF : ∀ k, k < tm.length → F k = tm.getD k 0) (hgd : Gd tm) (h66 : c 66 = aI G 201 D) (hD : ∀ j, j < tm.length → D j = ((dp tm j : Nat) : Int)) : ∀ (n : Nat) (i : Nat), tm.length - i < n → i ≤ tm.length → AW G K (Qi (fun v c' => v = fvB tm tm.length ∧ c' = c)) 26 (mkL [some (.ref (G.1 55)), some (.int (fvB tm i)), some (.int (zI ((i : Nat) : Int)))]) [] c := by
  intro n
  induction n with
  | zero => intro i hmz; exact absurd hmz (Nat.not_lt_zero _)
  | succ n ih =>
    intro i hmz hi
    refine A_iload_n (q := 27) X dX9_freeVariables_26 rfl rfl ?_
    refine A_aload_n (q := 28) X dX9_freeVariables_27 rfl rfl ?_
    refine A_getf (q := 31) X fX9_13 dX9_freeVariables_28 (by omega) h55 rfl rfl ?_
    refine A_sipush (q := 34) X dX9_freeVariables_31 (by decide) rfl ?_
    refine A_iald (q := 35) (h := 57) 200 X dX9_freeVariables_34 (by omega) h57 (by omega) (by omega) (by decide) rfl ?_
    rw [hS]
    refine A_icmp_ge (q := 38) (t := 93) X dX9_freeVariables_35 (by omega) (by omega) rfl rfl (fun hb35 => ?_) (fun hb35 => ?_)
    · refine A_iload_n (q := 94) X dX9_freeVariables_93 rfl rfl ?_
      exact A_ireturn X dX9_freeVariables_94 ⟨by rw [show i = tm.length by omega], rfl⟩
    · refine A_iload_n (q := 39) X dX9_freeVariables_38 rfl rfl ?_
      refine A_aload_n (q := 40) X dX9_freeVariables_39 rfl rfl ?_
      refine A_getf (q := 43) X fX9_13 dX9_freeVariables_40 (by omega) h55 rfl rfl ?_
      refine A_iload_n (q := 44) X dX9_freeVariables_43 rfl rfl ?_
      refine A_iald (q := 45) (h := 57) (i) X dX9_freeVariables_44 (by omega) h57 (by omega) (by omega) (by decide) rfl ?_
      rw [hF i (by omega)]
      have htb := hgd.at (i := i) (by omega)
      have hdl := dp_le tm i
      refine A_S1i (q := 48) X (c_X9_isVariable hG (by omega)) mX9_isVariable kX9_68 dX9_freeVariables_45 (by decide) (Nat.le_of_ble_eq_true rfl) rfl (fun vq_3 cq_2 hq_1 => ?_)
      obtain ⟨rfl, hq_1⟩ := hq_1
      obtain rfl := hq_1.symm
      refine A_beq (q := 51) (t := 84) X dX9_freeVariables_48 rfl rfl (fun hb48 => ?_) (fun hb48 => ?_)
      · refine A_iconst (q := 85) X dX9_freeVariables_84 rfl ?_
        refine A_ior (q := 86) X dX9_freeVariables_85 rfl ?_
        refine A_istore_n (q := 87) X dX9_freeVariables_86 (by decide) (okP_s rfl rfl) rfl ?_
        refine A_iinc (q := 90) X dX9_freeVariables_87 rfl (by decide) (okP_s rfl rfl) rfl ?_
        refine A_goto (q := 26) X dX9_freeVariables_90 rfl ?_
        have ef : fvB tm (i + 1) = fvB tm i ||| zI 0 := by refine Eq.trans (b := fvB tm i) ?_ (Int32.or_zero).symm; show (if _ then _ else _) = _; rw [if_neg (by omega)]
        exact AW.loc (sS rfl (sS (by rw [ef]; rfl) (sZ rfl (by omega) sE))) (ih (i + 1) (by omega) (by omega))
      · refine A_aload_n (q := 52) X dX9_freeVariables_51 rfl rfl ?_
        refine A_getf (q := 55) X fX9_13 dX9_freeVariables_52 (by omega) h55 rfl rfl ?_
        refine A_iload_n (q := 56) X dX9_freeVariables_55 rfl rfl ?_
        refine A_iald (q := 57) (h := 57) (i) X dX9_freeVariables_56 (by omega) h57 (by omega) (by omega) (by decide) rfl ?_
        rw [hF i (by omega)]
        refine A_aload_n (q := 58) X dX9_freeVariables_57 rfl rfl ?_
        refine A_getf (q := 61) X fX9_41 dX9_freeVariables_58 (by omega) h55 rfl rfl ?_
        refine A_iload_n (q := 62) X dX9_freeVariables_61 rfl rfl ?_
        refine A_iald (q := 63) (h := 66) (i) X dX9_freeVariables_62 (by omega) h66 (by omega) (by omega) (by decide) rfl ?_
        rw [hD i (by omega)]
        refine A_icmp_lt (q := 66) (t := 84) X dX9_freeVariables_63 (by omega) (by omega) rfl rfl (fun hb63 => ?_) (fun hb63 => ?_)
        · refine A_iconst (q := 85) X dX9_freeVariables_84 rfl ?_
          refine A_ior (q := 86) X dX9_freeVariables_85 rfl ?_
          refine A_istore_n (q := 87) X dX9_freeVariables_86 (by decide) (okP_s rfl rfl) rfl ?_
          refine A_iinc (q := 90) X dX9_freeVariables_87 rfl (by decide) (okP_s rfl rfl) rfl ?_
          refine A_goto (q := 26) X dX9_freeVariables_90 rfl ?_
          have ef : fvB tm (i + 1) = fvB tm i ||| zI 0 := by refine Eq.trans (b := fvB tm i) ?_ (Int32.or_zero).symm; show (if _ then _ else _) = _; rw [if_neg (by omega)]
          exact AW.loc (sS rfl (sS (by rw [ef]; rfl) (sZ rfl (by omega) sE))) (ih (i + 1) (by omega) (by omega))
        · refine A_iconst (q := 67) X dX9_freeVariables_66 rfl ?_
          refine A_aload_n (q := 68) X dX9_freeVariables_67 rfl rfl ?_
          refine A_getf (q := 71) X fX9_13 dX9_freeVariables_68 (by omega) h55 rfl rfl ?_
          refine A_iload_n (q := 72) X dX9_freeVariables_71 rfl rfl ?_
          refine A_iald (q := 73) (h := 57) (i) X dX9_freeVariables_72 (by omega) h57 (by omega) (by omega) (by decide) rfl ?_
          rw [hF i (by omega)]
          refine A_aload_n (q := 74) X dX9_freeVariables_73 rfl rfl ?_
          refine A_getf (q := 77) X fX9_41 dX9_freeVariables_74 (by omega) h55 rfl rfl ?_
          refine A_iload_n (q := 78) X dX9_freeVariables_77 rfl rfl ?_
          refine A_iald (q := 79) (h := 66) (i) X dX9_freeVariables_78 (by omega) h66 (by omega) (by omega) (by decide) rfl ?_
          rw [hD i (by omega)]
          refine A_isub (q := 80) X dX9_freeVariables_79 rfl ?_
          refine A_ishl (q := 81) X dX9_freeVariables_80 rfl ?_
          refine A_goto (q := 85) X dX9_freeVariables_81 rfl ?_
          refine A_ior (q := 86) X dX9_freeVariables_85 rfl ?_
          refine A_istore_n (q := 87) X dX9_freeVariables_86 (by decide) (okP_s rfl rfl) rfl ?_
          refine A_iinc (q := 90) X dX9_freeVariables_87 rfl (by decide) (okP_s rfl rfl) rfl ?_
          refine A_goto (q := 26) X dX9_freeVariables_90 rfl ?_
          have ef : fvB tm (i + 1) = fvB tm i ||| (zI 1 <<< (zI (tm.getD i 0 - ((dp tm i : Nat) : Int)) &&& 31)) := by show (if _ then _ else _) = _; rw [if_pos (by omega)]
          exact AW.loc (sS rfl (sS (by rw [ef]; rfl) (sZ rfl (by omega) sE))) (ih (i + 1) (by omega) (by omega))
set_option maxRecDepth 100000 in
set_option maxHeartbeats 4000000 in
theorem c_X9_freeVariables {l : Launch} {G : Gm} {c : HP} {tm x : List Int} {hs : List (List Int)} {s0 s1 : List Int} {o : List (Int × Int)} {sd : Int64} (hG : injG G) (hW : WM G c (tm, x, hs, s0, s1, o, sd)) : AMet l G yX9_freeVariables cX9_freeVariables 3 ((some .int)) (rmR 2 47) [.ref (G.1 55)] c (Qi (fun v c' => v = fvB tm tm.length ∧ WM G c' (tm, x, hs, s0, s1, o, sd) ∧ (∀ k, k < 55 → c' k = c k))) := by
  refine AMet.of (vl := [some (.ref (G.1 55))]) (by decide) hG (Nat.le_of_ble_eq_true rfl) rfl ?_
  intro K X
  have X : Fx l G K cX9_freeVariables 3 RX9 ((some .int)) (rmR 2 47) := X
  obtain ⟨hN, ⟨th, tw, pk, h55, htw⟩, hX, hT, hgd, hR8, hR9, hO, hH, hV, hB, hSc, hWd⟩ := hW
  dsimp only at h55 hX hT hgd hH hV hB
  have hl0 := hT.len
  have hxl := hX.1
  have hhl := hH.1
  have hol := hB.1
  have hT0 := hT
  obtain ⟨ha0, -, F, h57, hS, hF⟩ := hT0
  have hSc0 := hSc
  obtain ⟨⟨Dq, h66q⟩, ⟨Oq, h67q⟩, ⟨Bq, h68q⟩⟩ := hSc0
  refine A_aload_n (q := 1) X dX9_freeVariables_0 rfl rfl ?_
  refine A_iconst (q := 2) X dX9_freeVariables_1 rfl ?_
  refine A_putf (q := 5) X pX9_59 dX9_freeVariables_2 (by omega) h55 (Nat.le_of_ble_eq_true rfl) rfl rfl rfl ?_
  refine A_aload_n (q := 6) X dX9_freeVariables_5 rfl rfl ?_
  refine A_aload_n (q := 7) X dX9_freeVariables_6 rfl rfl ?_
  refine A_getf (q := 10) X fX9_13 dX9_freeVariables_7 (by omega) lk_eq rfl rfl ?_
  refine A_iconst (q := 11) X dX9_freeVariables_10 rfl ?_
  refine A_aload_n (q := 12) X dX9_freeVariables_11 rfl rfl ?_
  refine A_getf (q := 15) X fX9_13 dX9_freeVariables_12 (by omega) lk_eq rfl rfl ?_
  refine A_sipush (q := 18) X dX9_freeVariables_15 (by decide) rfl ?_
  refine A_iald (q := 19) (h := 57) 200 X dX9_freeVariables_18 (by omega) (lk_ne (by omega) h57) (by omega) (by omega) (by decide) rfl ?_
  rw [hS]
  rw [show zI ((tm.length : Nat) : Int) = zI ((0 + tm.length : Nat) : Int) from congrArg zI (by omega), show zI 0 = zI ((0 : Nat) : Int) from rfl]
  refine A_V3v (q := 22) X (c_X9_layDepths (x := tm) (fm := 0) hG hN (lk_eq) ha0 (by decide) ((lk_ne (by omega) h57)) hgd.one (fun t ht => by have := hgd.tok ht; omega) (by omega) (fun i hi => by rw [Nat.zero_add]; exact hF i hi) ((lk_ne (by omega) h66q)) ((lk_ne (by omega) h67q)) ((lk_ne (by omega) h68q))) mX9_layDepths kX9_86 dX9_freeVariables_19 (by omega) lk_eq rfl (by decide) (Nat.le_of_ble_eq_true rfl) rfl (fun cq_2 hq_1 => ?_)
  obtain ⟨⟨D2, h662, hD2, -⟩, ⟨O2, h672⟩, ⟨B2, h682⟩, hfl⟩ := hq_1
  have hSc3 : Sc G cq_2 := ⟨⟨_, h662⟩, ⟨_, h672⟩, ⟨_, h682⟩⟩
  have hD3 : ∀ j, j < tm.length → D2 j = ((dp tm j : Nat) : Int) := fun j hj => by have := hD2 j hj; rw [Nat.zero_add] at this; exact this
  refine A_iconst (q := 23) X dX9_freeVariables_22 rfl ?_
  refine A_istore_n (q := 24) X dX9_freeVariables_23 (by decide) (okP_s rfl rfl) rfl ?_
  refine A_iconst (q := 25) X dX9_freeVariables_24 rfl ?_
  refine A_istore_n (q := 26) X dX9_freeVariables_25 (by decide) (okP_s rfl rfl) rfl ?_
  refine AW.loc (sS rfl (sS rfl (sZ rfl rfl sE))) (AW.mono (lp_X9_freeVariables X hG hN (((hfl _ (by omega) (by omega) (by omega)).trans lk_eq)) (((hfl _ (by omega) (by omega) (by omega)).trans (lk_ne (by omega) h57))) hl0 hS hF hgd (h662) hD3 _ 0 (Nat.lt_succ_self _) (Nat.zero_le _)) ?_)
  rintro r c9 ⟨v9, hv9, rfl, rfl⟩
  exact ⟨_, hv9, rfl, ⟨hN, ⟨_, _, _, ((hfl _ (by omega) (by omega) (by omega)).trans lk_eq), htw⟩, (hX.keep ((hfl 56 (by omega) (by omega) (by omega)).trans (lk_ne (by omega) rfl))), (hT.keep ((hfl 57 (by omega) (by omega) (by omega)).trans (lk_ne (by omega) rfl))), hgd, (hR8.keep ((hfl 58 (by omega) (by omega) (by omega)).trans (lk_ne (by omega) rfl))), (hR9.keep ((hfl 59 (by omega) (by omega) (by omega)).trans (lk_ne (by omega) rfl))), (hO.keep ((hfl 60 (by omega) (by omega) (by omega)).trans (lk_ne (by omega) rfl))), (hH.keep ((hfl 61 (by omega) (by omega) (by omega)).trans (lk_ne (by omega) rfl))), (hV.keep ((hfl 62 (by omega) (by omega) (by omega)).trans (lk_ne (by omega) rfl)) ((hfl 63 (by omega) (by omega) (by omega)).trans (lk_ne (by omega) rfl))), (hB.keep ((hfl 64 (by omega) (by omega) (by omega)).trans (lk_ne (by omega) rfl)) ((hfl 65 (by omega) (by omega) (by omega)).trans (lk_ne (by omega) rfl))), hSc3, (hWd.keep ((hfl 69 (by omega) (by omega) (by omega)).trans (lk_ne (by omega) rfl)) ((hfl 70 (by omega) (by omega) (by omega)).trans (lk_ne (by omega) rfl)) ((hfl 71 (by omega) (by omega) (by omega)).trans (lk_ne (by omega) rfl)))⟩, (fun k n0 => ((hfl k (by omega) (by omega) (by omega)).trans (lk_ne (by omega) rfl)))⟩
