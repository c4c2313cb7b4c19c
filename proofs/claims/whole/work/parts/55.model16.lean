/-! THE MODEL's calls: the text's first error -/
def tk9 (c : Int) : Int := if c = 76 then 1001 else if c = 64 then 1000 else if 48 ≤ c ∧ c ≤ 57 then c - 48 else -9
theorem tk9_tkc (c : Int) : (tk9 c = -9 ↔ tkc c = -1) ∧ (tk9 c ≠ -9 → tk9 c = tkc c ∧ 0 ≤ tk9 c ∧ tk9 c ≤ 1001) := by
  unfold tk9 tkc
  split
  · omega
  · split
    · omega
    · split <;> omega
set_option maxRecDepth 100000 in
set_option maxHeartbeats 4000000 in
theorem c_X9_tokenOf {l : Launch} {G : Gm} {c : HP} {t : Int} (hG : injG G) (ht : rg t) : AMet l G yX9_tokenOf cX9_tokenOf 1 ((some .int)) (rmR 1 25) [.int (zI t)] c (Qi (fun v c' => v = zI (tk9 t) ∧ c' = c)) := by
  refine AMet.of (vl := [some (.int (zI t))]) (by decide) hG (Nat.le_of_ble_eq_true rfl) rfl ?_
  intro K X
  have X : Fx l G K cX9_tokenOf 1 RX9 ((some .int)) (rmR 1 25) := X
  refine A_iload_n (q := 1) X dX9_tokenOf_0 rfl rfl ?_
  refine A_bipush (q := 3) X dX9_tokenOf_1 (by decide) rfl ?_
  refine A_icmp_ne (q := 6) (t := 12) X dX9_tokenOf_3 (by omega) (by decide) rfl rfl (fun hb3 => ?_) (fun hb3 => ?_)
  · refine A_iload_n (q := 13) X dX9_tokenOf_12 rfl rfl ?_
    refine A_bipush (q := 15) X dX9_tokenOf_13 (by decide) rfl ?_
    refine A_icmp_ne (q := 18) (t := 24) X dX9_tokenOf_15 (by omega) (by decide) rfl rfl (fun hb15 => ?_) (fun hb15 => ?_)
    · refine A_iload_n (q := 25) X dX9_tokenOf_24 rfl rfl ?_
      refine A_i2l (q := 26) X dX9_tokenOf_25 rfl ?_
      refine A_ldc2 (q := 29) X dX9_tokenOf_26 nX9_121 rfl ?_
      refine A_ldc2 (q := 32) X dX9_tokenOf_29 nX9_123 rfl ?_
      refine A_S3i (q := 35) X (c_inZ (a := t) (b := 48) (d := 57) hG rfl (by decide) (by decide) (by omega) (by omega) (by omega)) mX9_in kX9_114 dX9_tokenOf_32 (by decide) (Nat.le_of_ble_eq_true rfl) rfl (fun vq_3 cq_2 hq_1 => ?_)
      obtain ⟨rfl, hq_1⟩ := hq_1
      obtain rfl := hq_1.symm
      refine A_beq (q := 38) (t := 45) X dX9_tokenOf_35 rfl rfl (fun hb35 => ?_) (fun hb35 => ?_)
      · refine A_bipush (q := 47) X dX9_tokenOf_45 (by decide) rfl ?_
        exact A_ireturn X dX9_tokenOf_47 ⟨congrArg zI (by unfold tk9; split <;> (try split) <;> (try split) <;> omega), rfl⟩
      · refine A_iload_n (q := 39) X dX9_tokenOf_38 rfl rfl ?_
        refine A_bipush (q := 41) X dX9_tokenOf_39 (by decide) rfl ?_
        refine A_isub (q := 42) X dX9_tokenOf_41 rfl ?_
        refine A_goto (q := 47) X dX9_tokenOf_42 rfl ?_
        exact A_ireturn X dX9_tokenOf_47 ⟨congrArg zI (by unfold tk9; split <;> (try split) <;> (try split) <;> omega), rfl⟩
    · refine A_sipush (q := 21) X dX9_tokenOf_18 (by decide) rfl ?_
      refine A_goto (q := 47) X dX9_tokenOf_21 rfl ?_
      exact A_ireturn X dX9_tokenOf_47 ⟨congrArg zI (by unfold tk9; split <;> (try split) <;> (try split) <;> omega), rfl⟩
  · refine A_sipush (q := 9) X dX9_tokenOf_6 (by decide) rfl ?_
    refine A_goto (q := 47) X dX9_tokenOf_9 rfl ?_
    exact A_ireturn X dX9_tokenOf_47 ⟨congrArg zI (by unfold tk9; split <;> (try split) <;> (try split) <;> omega), rfl⟩
set_option maxRecDepth 100000 in
set_option maxHeartbeats 4000000 in
theorem lp_X9_errorPosition {l : Launch} {G : Gm} {K : Cx} {c : HP} {x : List Int} {FX : Nat → Int} {A : Int} {th rmb obn tw pk : Int} {sd : Int64} (X : Fx l G K cX9_errorPosition 4 RX9 ((some .int)) (rmR 2 45)) (hG : injG G) (hN : G.2.1 = 72) (h55 : c 55 = ob9 G th ((x.length : Nat) : Int) rmb obn sd tw pk) (hxl : x.length ≤ 60) (hxv : ∀ t ∈ x, 0 ≤ t ∧ t ≤ 255) (h56 : c 56 = aI G 60 FX) (hFX : ∀ k, k < x.length → FX k = x.getD k 0) : ∀ (n : Nat) (i : Nat) (nd_ : Nat), x.length - i < n → i ≤ x.length → nd_ ≤ 2 * i + 1 → erf (x.drop i) nd_ i = A → AW G K (Qi (fun v c' => v = zI A ∧ c' = c)) 9 (mkL [some (.ref (G.1 55)), some (.int (zI ((nd_ : Nat) : Int))), some (.int (zI ((i : Nat) : Int))), none]) [] c := by
  intro n
  induction n with
  | zero => intro i nd_ hmz; exact absurd hmz (Nat.not_lt_zero _)
  | succ n ih =>
    intro i nd_ hmz hi hnd hA
    refine A_iload_n (q := 10) X dX9_errorPosition_9 rfl rfl ?_
    refine A_aload_n (q := 11) X dX9_errorPosition_10 rfl rfl ?_
    refine A_getf (q := 14) X fX9_118 dX9_errorPosition_11 (by omega) h55 rfl rfl ?_
    refine A_icmp_ge (q := 17) (t := 54) X dX9_errorPosition_14 (by omega) (by omega) rfl rfl (fun hb14 => ?_) (fun hb14 => ?_)
    · refine A_iload_n (q := 55) X dX9_errorPosition_54 rfl rfl ?_
      refine A_if_le (q := 58) (t := 65) X dX9_errorPosition_55 (by omega) rfl rfl (fun hb55 => ?_) (fun hb55 => ?_)
      · refine A_bipush (q := 67) X dX9_errorPosition_65 (by decide) rfl ?_
        exact A_ireturn X dX9_errorPosition_67 ⟨by rw [List.drop_of_length_le (by omega)] at hA; unfold erf at hA; rw [if_pos (by omega)] at hA; rw [← hA], rfl⟩
      · refine A_aload_n (q := 59) X dX9_errorPosition_58 rfl rfl ?_
        refine A_getf (q := 62) X fX9_118 dX9_errorPosition_59 (by omega) h55 rfl rfl ?_
        refine A_goto (q := 67) X dX9_errorPosition_62 rfl ?_
        exact A_ireturn X dX9_errorPosition_67 ⟨by rw [List.drop_of_length_le (by omega)] at hA; unfold erf at hA; rw [if_neg (by omega)] at hA; rw [← hA, show i = x.length by omega], rfl⟩
    · have hil : i < x.length := by omega
      have hed : x.drop i = x.getD i 0 :: x.drop (i + 1) := by rw [List.drop_eq_getElem_cons hil, List.getD_eq_getElem?_getD, List.getElem?_eq_getElem hil]; rfl
      have hxb := hxv _ (mem_getD hil)
      have hfx := hFX i hil
      rw [hed] at hA
      unfold erf at hA
      generalize x.getD i 0 = t at hA hxb hfx
      have htk := tk9_tkc t
      have htkr : -9 ≤ tk9 t ∧ tk9 t ≤ 1001 := by unfold tk9; split <;> (try split) <;> (try split) <;> omega
      refine A_aload_n (q := 18) X dX9_errorPosition_17 rfl rfl ?_
      refine A_getf (q := 21) X fX9_7 dX9_errorPosition_18 (by omega) h55 rfl rfl ?_
      refine A_iload_n (q := 22) X dX9_errorPosition_21 rfl rfl ?_
      refine A_iald (q := 23) (h := 56) (i) X dX9_errorPosition_22 (by omega) h56 (by omega) (by omega) (by decide) rfl ?_
      rw [hfx]
      refine A_S1i (q := 26) X (c_X9_tokenOf hG (by omega)) mX9_tokenOf kX9_125 dX9_errorPosition_23 (by decide) (Nat.le_of_ble_eq_true rfl) rfl (fun vq_3 cq_2 hq_1 => ?_)
      obtain ⟨rfl, hq_1⟩ := hq_1
      obtain rfl := hq_1.symm
      refine A_istore_n (q := 27) X dX9_errorPosition_26 (by decide) (okP_s rfl rfl) rfl ?_
      refine A_iload_n (q := 28) X dX9_errorPosition_27 rfl rfl ?_
      refine A_bipush (q := 30) X dX9_errorPosition_28 (by decide) rfl ?_
      refine A_icmp_eq (q := 33) (t := 37) X dX9_errorPosition_30 (by omega) (by decide) rfl rfl (fun hb30 => ?_) (fun hb30 => ?_)
      · refine A_iload_n (q := 38) X dX9_errorPosition_37 rfl rfl ?_
        exact A_ireturn X dX9_errorPosition_38 ⟨by rw [if_pos (by have := htk.1; omega)] at hA; rw [← hA], rfl⟩
      · refine A_iload_n (q := 34) X dX9_errorPosition_33 rfl rfl ?_
        refine A_if_ne (q := 37) (t := 39) X dX9_errorPosition_34 (by omega) rfl rfl (fun hb34 => ?_) (fun hb34 => ?_)
        · have htk2 := htk.2 (by omega)
          have hpb := prt_b (t := tk9 t) (by omega)
          rw [if_neg (by have := htk.1; omega), ← htk2.1] at hA
          refine A_iload_n (q := 40) X dX9_errorPosition_39 rfl rfl ?_
          refine A_iload_n (q := 41) X dX9_errorPosition_40 rfl rfl ?_
          refine A_S1i (q := 44) X (c_X9_parts hG (by omega) (by omega)) mX9_parts kX9_64 dX9_errorPosition_41 (by decide) (Nat.le_of_ble_eq_true rfl) rfl (fun vq_6 cq_5 hq_4 => ?_)
          obtain ⟨rfl, hq_4⟩ := hq_4
          obtain rfl := hq_4.symm
          refine A_iconst (q := 45) X dX9_errorPosition_44 rfl ?_
          refine A_isub (q := 46) X dX9_errorPosition_45 rfl ?_
          refine A_iadd (q := 47) X dX9_errorPosition_46 rfl ?_
          refine A_istore_n (q := 48) X dX9_errorPosition_47 (by decide) (okP_s rfl rfl) rfl ?_
          refine A_iinc (q := 51) X dX9_errorPosition_48 rfl (by decide) (okP_s rfl rfl) rfl ?_
          refine A_goto (q := 9) X dX9_errorPosition_51 rfl ?_
          exact AW.loc (sS rfl (sZ rfl (by omega) (sZ rfl (by omega) (sN sE)))) (ih (i + 1) (nd_ - 1 + prt (tk9 t)) (by omega) (by omega) (by omega) hA)
        · refine A_iload_n (q := 38) X dX9_errorPosition_37 rfl rfl ?_
          exact A_ireturn X dX9_errorPosition_38 ⟨by rw [if_pos (by have := htk.1; omega)] at hA; rw [← hA], rfl⟩
set_option maxRecDepth 100000 in
set_option maxHeartbeats 4000000 in
theorem c_X9_errorPosition {l : Launch} {G : Gm} {c : HP} {tm x : List Int} {hs : List (List Int)} {s0 s1 : List Int} {o : List (Int × Int)} {sd : Int64} (hG : injG G) (hW : WM G c (tm, x, hs, s0, s1, o, sd)) : AMet l G yX9_errorPosition cX9_errorPosition 4 ((some .int)) (rmR 2 45) [.ref (G.1 55)] c (Qi (fun v c' => v = zI (fErr (tm, x, hs, s0, s1, o, sd)).1 ∧ WM G c' (fErr (tm, x, hs, s0, s1, o, sd)).2 ∧ (∀ k, k < 55 → c' k = c k))) := by
  refine AMet.of (vl := [some (.ref (G.1 55))]) (by decide) hG (Nat.le_of_ble_eq_true rfl) rfl ?_
  intro K X
  have X : Fx l G K cX9_errorPosition 4 RX9 ((some .int)) (rmR 2 45) := X
  obtain ⟨hN, ⟨th, tw, pk, h55, htw⟩, hX, hT, hgd, hR8, hR9, hO, hH, hV, hB, hSc, hWd⟩ := hW
  dsimp only at h55 hX hT hgd hH hV hB
  have hl0 := hT.len
  have hxl := hX.1
  have hhl := hH.1
  have hol := hB.1
  have hX0 := hX
  obtain ⟨-, hxv, FX, h56, hFX⟩ := hX0
  refine A_aload_n (q := 1) X dX9_errorPosition_0 rfl rfl ?_
  refine A_iconst (q := 2) X dX9_errorPosition_1 rfl ?_
  refine A_putf (q := 5) X pX9_59 dX9_errorPosition_2 (by omega) h55 (Nat.le_of_ble_eq_true rfl) rfl rfl rfl ?_
  refine A_iconst (q := 6) X dX9_errorPosition_5 rfl ?_
  refine A_istore_n (q := 7) X dX9_errorPosition_6 (by decide) (okP_s rfl rfl) rfl ?_
  refine A_iconst (q := 8) X dX9_errorPosition_7 rfl ?_
  refine A_istore_n (q := 9) X dX9_errorPosition_8 (by decide) (okP_s rfl rfl) rfl ?_
  refine AW.loc (sS rfl (sZ rfl rfl (sZ rfl rfl (sN sE)))) (AW.mono (lp_X9_errorPosition (x := x) X hG hN (lk_eq) hxl hxv ((lk_ne (by omega) h56)) hFX _ 0 1 (Nat.lt_succ_self _) (Nat.zero_le _) (by omega) rfl) ?_)
  rintro r c9 ⟨v9, hv9, rfl, rfl⟩
  exact ⟨_, hv9, rfl, ⟨hN, ⟨_, _, _, lk_eq, htw⟩, (hX.keep (lk_ne (by omega) rfl)), (hT.keep (lk_ne (by omega) rfl)), hgd, (hR8.keep (lk_ne (by omega) rfl)), (hR9.keep (lk_ne (by omega) rfl)), (hO.keep (lk_ne (by omega) rfl)), (hH.keep (lk_ne (by omega) rfl)), (hV.keep (lk_ne (by omega) rfl) (lk_ne (by omega) rfl)), (hB.keep (lk_ne (by omega) rfl) (lk_ne (by omega) rfl)), (hSc.keep (lk_ne (by omega) rfl) (lk_ne (by omega) rfl) (lk_ne (by omega) rfl)), (hWd.keep (lk_ne (by omega) rfl) (lk_ne (by omega) rfl) (lk_ne (by omega) rfl))⟩, (fun k n0 => (lk_ne (by omega) rfl))⟩
