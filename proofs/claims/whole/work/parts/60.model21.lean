/-! THE MODEL's calls: application to a slot, substitution -/
set_option maxRecDepth 100000 in
set_option maxHeartbeats 4000000 in
theorem lp_X9_applyTo {l : Launch} {G : Gm} {K : Cx} {c0 : HP} {q : List Int} {Fq : Nat → Int} {tm x : List Int} {hs : List (List Int)} {s0 s1 : List Int} {o : List (Int × Int)} {sd : Int64} {th ts rmb obn tw pk : Int} (X : Fx l G K cX9_applyTo 4 RX9 ((some .int)) (rmR 2 45)) (hG : injG G) (hN : G.2.1 = 72) (h055 : c0 55 = ob9 G th ts rmb obn sd tw pk) (h059 : c0 59 = aI G 201 Fq) (hql : q.length ≤ 200) (hSq : Fq 200 = ((q.length : Nat) : Int)) (hFq : ∀ k, k < q.length → Fq k = q.getD k 0) (hgd : Gd tm) (hgq : Gd q) (hW0 : ∀ c2 : HP, Mr G c2 60 → (∀ k, k ≠ 60 → c2 k = c0 k) → WM G c2 (tm, x, hs, s0, s1, o, sd)) : ∀ (n : Nat) (i : Nat) (c : HP), q.length - i < n → i ≤ q.length → Po G c (((1000 : Int) :: tm) ++ q.take i) → (∀ k, k ≠ 60 → c k = c0 k) → AW G K (Qi (fun v c' => ((1000 :: (tm ++ q)).length ≤ 200 → v = zI (((1000 :: (tm ++ q)).length : Nat) : Int) ∧ WM G c' (1000 :: (tm ++ q), x, psh hs tm, s0, s1, o, sd)) ∧ (¬ (1000 :: (tm ++ q)).length ≤ 200 → v = zI (-4) ∧ WM G c' (tm, x, hs, s0, s1, o, sd)) ∧ (∀ k, k < 55 → c' k = c0 k))) 52 (mkL [some (.ref (G.1 55)), none, some (.int (zI (if (((1000 : Int) :: tm) ++ q.take i).length ≤ 200 then 1 else 0 : Int))), some (.int (zI ((i : Nat) : Int)))]) [] c := by
  intro n
  induction n with
  | zero => intro i c hmz; exact absurd hmz (Nat.not_lt_zero _)
  | succ n ih =>
    intro i c hmz hi hPo hf0
    have h55 := (hf0 55 (by decide)).trans h055
    have h59 := (hf0 59 (by decide)).trans h059
    refine A_iload_n (q := 53) X dX9_applyTo_52 rfl rfl ?_
    refine A_aload_n (q := 54) X dX9_applyTo_53 rfl rfl ?_
    refine A_getf (q := 57) X fX9_19 dX9_applyTo_54 (by omega) h55 rfl rfl ?_
    refine A_sipush (q := 60) X dX9_applyTo_57 (by decide) rfl ?_
    refine A_iald (q := 61) (h := 59) 200 X dX9_applyTo_60 (by omega) h59 (by omega) (by omega) (by decide) rfl ?_
    rw [hSq]
    refine A_icmp_ge (q := 64) (t := 93) X dX9_applyTo_61 (by omega) (by omega) rfl rfl (fun hb61 => ?_) (fun hb61 => ?_)
    · have e9 : (((1000 : Int) :: tm) ++ q.take i) = 1000 :: (tm ++ q) := by rw [List.take_of_length_le (by omega)]; rfl
      rw [e9] at hPo ⊢
      refine A_iload_n (q := 94) X dX9_applyTo_93 rfl rfl ?_
      refine A_beq (q := 97) (t := 104) X dX9_applyTo_94 rfl rfl (fun hb94 => ?_) (fun hb94 => ?_)
      · refine A_bipush (q := 106) X dX9_applyTo_104 (by decide) rfl ?_
        exact A_ireturn X dX9_applyTo_106 ⟨fun q9 => absurd q9 hb94, fun _ => ⟨rfl, hW0 _ hPo.2.choose_spec.mr hf0⟩, fun k n0 => hf0 k (by omega)⟩
      · refine A_aload_n (q := 98) X dX9_applyTo_97 rfl rfl ?_
        refine A_V0i (q := 101) X (c_X9_commit hG (hW0 _ hPo.2.choose_spec.mr hf0) (hPo.1 hb94) (Gd_appl hgd hgq hb94)) mX9_commit kX9_140 dX9_applyTo_98 (by omega) h55 rfl (by decide) (Nat.le_of_ble_eq_true rfl) rfl (fun vq_3 cq_2 hq_1 => ?_)
        obtain ⟨rfl, hWc, hfc9⟩ := hq_1
        refine A_goto (q := 106) X dX9_applyTo_101 rfl ?_
        exact A_ireturn X dX9_applyTo_106 ⟨fun _ => ⟨rfl, hWc⟩, fun q9 => absurd hb94 q9, fun k n0 => (hfc9 k n0).trans (hf0 k (by omega))⟩
    · refine A_iload_n (q := 65) X dX9_applyTo_64 rfl rfl ?_
      refine A_beq (q := 68) (t := 85) X dX9_applyTo_65 rfl rfl (fun hb65 => ?_) (fun hb65 => ?_)
      · refine A_iconst (q := 86) X dX9_applyTo_85 rfl ?_
        refine A_istore_n (q := 87) X dX9_applyTo_86 (by decide) (okP_n rfl) rfl ?_
        refine A_iinc (q := 90) X dX9_applyTo_87 rfl (by decide) (okP_s rfl rfl) rfl ?_
        refine A_goto (q := 52) X dX9_applyTo_90 rfl ?_
        have eW : ((1000 : Int) :: tm) ++ q.take (i + 1) = (((1000 : Int) :: tm) ++ q.take i) ++ [q.getD i 0] := by rw [take_succ_getD (by omega), List.append_assoc]
        have hbig : ¬ (((1000 : Int) :: tm) ++ q.take (i + 1)).length ≤ 200 := by rw [eW, List.length_append]; intro z; exact hb65 (Nat.le_trans (Nat.le_add_right _ _) z)
        exact AW.loc (sS rfl (sN (sS (congrArg (fun z => some (Value.int z)) (show zI 0 = zI (if (((1000 : Int) :: tm) ++ q.take (i + 1)).length ≤ 200 then 1 else 0) from zb0 hbig)) (sZ rfl (by omega) sE)))) (ih (i + 1) _ (by omega) (by omega) (hPo.big hbig) (fun k n0 => (hf0 k n0)))
      · refine A_aload_n (q := 69) X dX9_applyTo_68 rfl rfl ?_
        refine A_aload_n (q := 70) X dX9_applyTo_69 rfl rfl ?_
        refine A_getf (q := 73) X fX9_19 dX9_applyTo_70 (by omega) h55 rfl rfl ?_
        refine A_iload_n (q := 74) X dX9_applyTo_73 rfl rfl ?_
        refine A_iald (q := 75) (h := 59) (i) X dX9_applyTo_74 (by omega) h59 (by omega) (by omega) (by decide) rfl ?_
        rw [hFq i (by omega)]
        refine A_V1i (q := 78) X (c_X9_put (w := (((1000 : Int) :: tm) ++ q.take i)) (t := (q.getD i 0)) hG hN h55 hPo hb65) mX9_put kX9_83 dX9_applyTo_75 (by omega) h55 rfl (by decide) (Nat.le_of_ble_eq_true rfl) rfl (fun vq_6 cq_5 hq_4 => ?_)
        obtain ⟨rfl, hPo_7, hfp_8⟩ := hq_4
        refine A_beq (q := 81) (t := 85) X dX9_applyTo_78 rfl rfl (fun hb78 => ?_) (fun hb78 => ?_)
        · refine A_iconst (q := 86) X dX9_applyTo_85 rfl ?_
          refine A_istore_n (q := 87) X dX9_applyTo_86 (by decide) (okP_n rfl) rfl ?_
          refine A_iinc (q := 90) X dX9_applyTo_87 rfl (by decide) (okP_s rfl rfl) rfl ?_
          refine A_goto (q := 52) X dX9_applyTo_90 rfl ?_
          have eW : ((1000 : Int) :: tm) ++ q.take (i + 1) = (((1000 : Int) :: tm) ++ q.take i) ++ [q.getD i 0] := by rw [take_succ_getD (by omega), List.append_assoc]
          exact AW.loc (sS rfl (sN (sS (congrArg (fun z => some (Value.int z)) (show zI 0 = zI (if (((1000 : Int) :: tm) ++ q.take (i + 1)).length ≤ 200 then 1 else 0) from zb0 (by rw [eW]; exact hb78))) (sZ rfl (by omega) sE)))) (ih (i + 1) _ (by omega) (by omega) (by rw [eW]; exact hPo_7) (fun k n0 => ((hfp_8 k (by omega)).trans (hf0 k n0))))
        · refine A_iconst (q := 82) X dX9_applyTo_81 rfl ?_
          refine A_goto (q := 86) X dX9_applyTo_82 rfl ?_
          refine A_istore_n (q := 87) X dX9_applyTo_86 (by decide) (okP_n rfl) rfl ?_
          refine A_iinc (q := 90) X dX9_applyTo_87 rfl (by decide) (okP_s rfl rfl) rfl ?_
          refine A_goto (q := 52) X dX9_applyTo_90 rfl ?_
          have eW : ((1000 : Int) :: tm) ++ q.take (i + 1) = (((1000 : Int) :: tm) ++ q.take i) ++ [q.getD i 0] := by rw [take_succ_getD (by omega), List.append_assoc]
          exact AW.loc (sS rfl (sN (sS (congrArg (fun z => some (Value.int z)) (show zI 1 = zI (if (((1000 : Int) :: tm) ++ q.take (i + 1)).length ≤ 200 then 1 else 0) from zb1 (by rw [eW]; exact hb78))) (sZ rfl (by omega) sE)))) (ih (i + 1) _ (by omega) (by omega) (by rw [eW]; exact hPo_7) (fun k n0 => ((hfp_8 k (by omega)).trans (hf0 k n0))))
set_option maxRecDepth 100000 in
set_option maxHeartbeats 4000000 in
theorem c_X9_applyTo {l : Launch} {G : Gm} {c : HP} {tm x : List Int} {hs : List (List Int)} {s0 s1 : List Int} {o : List (Int × Int)} {sd : Int64} {p : Int} (hG : injG G) (hpr : rg p) (hW : WM G c (tm, x, hs, s0, s1, o, sd)) : AMet l G yX9_applyTo cX9_applyTo 4 ((some .int)) (rmR 2 45) [.ref (G.1 55), .int (zI p)] c (Qi (fun v c' => v = zI (fApply p (tm, x, hs, s0, s1, o, sd)).1 ∧ WM G c' (fApply p (tm, x, hs, s0, s1, o, sd)).2 ∧ (∀ k, k < 55 → c' k = c k))) := by
  refine AMet.of (vl := [some (.ref (G.1 55)), some (.int (zI p))]) (by decide) hG (Nat.le_of_ble_eq_true rfl) rfl ?_
  intro K X
  have X : Fx l G K cX9_applyTo 4 RX9 ((some .int)) (rmR 2 45) := X
  obtain ⟨hN, ⟨th, tw, pk, h55, htw⟩, hX, hT, hgd, hR8, hR9, hO, hH, hV, hB, hSc, hWd⟩ := hW
  dsimp only at h55 hX hT hgd hH hV hB
  have hl0 := hT.len
  have hxl := hX.1
  have hhl := hH.1
  have hol := hB.1
  have hV0 := hV
  obtain ⟨FS, U, h62, h63, hV1, hV2⟩ := hV0
  refine A_aload_n (q := 1) X dX9_applyTo_0 rfl rfl ?_
  refine A_iconst (q := 2) X dX9_applyTo_1 rfl ?_
  refine A_putf (q := 5) X pX9_59 dX9_applyTo_2 (by omega) h55 (Nat.le_of_ble_eq_true rfl) rfl rfl rfl ?_
  refine A_iload_n (q := 6) X dX9_applyTo_5 rfl rfl ?_
  refine A_i2l (q := 7) X dX9_applyTo_6 rfl ?_
  refine A_lconst (q := 8) (v := 0) X dX9_applyTo_7 rfl rfl ?_
  refine A_lconst (q := 9) (v := 1) X dX9_applyTo_8 rfl rfl ?_
  refine A_S3i (q := 12) X (c_inZ (a := p) (b := 0) (d := 1) hG rfl (by decide) (by decide) (by omega) (by omega) (by omega)) mX9_in kX9_114 dX9_applyTo_9 (by decide) (Nat.le_of_ble_eq_true rfl) rfl (fun vq_3 cq_2 hq_1 => ?_)
  obtain ⟨rfl, hq_1⟩ := hq_1
  obtain rfl := hq_1.symm
  refine A_bne (q := 15) (t := 17) X dX9_applyTo_12 rfl rfl (fun hb12 => ?_) (fun hb12 => ?_)
  · obtain ⟨sl, rfl⟩ : ∃ sl : Nat, p = ((sl : Nat) : Int) := ⟨p.toNat, by omega⟩
    have hsl : sl ≤ 1 := by omega
    have hq : SlR FS U sl (sltS (tm, x, hs, s0, s1, o, sd) ((sl : Nat) : Int)) := sl_get hsl hV1 hV2
    obtain ⟨q, hs9⟩ : ∃ q, sltS (tm, x, hs, s0, s1, o, sd) ((sl : Nat) : Int) = q := ⟨_, rfl⟩
    rw [hs9] at hq
    have hU01 := hq.b01
    refine A_aload_n (q := 18) X dX9_applyTo_17 rfl rfl ?_
    refine A_getf (q := 21) X fX9_31 dX9_applyTo_18 (by omega) lk_eq rfl rfl ?_
    refine A_iload_n (q := 22) X dX9_applyTo_21 rfl rfl ?_
    refine A_zald (q := 23) (h := 63) (sl) X dX9_applyTo_22 (by omega) (lk_ne (by omega) h63) (by omega) (by omega) (by decide) rfl ?_
    refine A_if_ne (q := 26) (t := 29) X dX9_applyTo_23 (by omega) rfl rfl (fun hb23 => ?_) (fun hb23 => ?_)
    · have hqn := hq.used hb23
      obtain ⟨hql, hqS, hqF⟩ := hq.2.1 hqn
      have hgq : Gd q := hq.2.2.resolve_left hqn
      have hqp := hgq.pos
      refine A_aload_n (q := 30) X dX9_applyTo_29 rfl rfl ?_
      refine A_iload_n (q := 31) X dX9_applyTo_30 rfl rfl ?_
      refine A_aload_n (q := 32) X dX9_applyTo_31 rfl rfl ?_
      refine A_getf (q := 35) X fX9_19 dX9_applyTo_32 (by omega) lk_eq rfl rfl ?_
      refine A_V2v (q := 38) X (c_X9_takeSlot (sl := sl) (t := q) hG hN (lk_eq) (hR9.keep (lk_ne (by omega) rfl)) (by decide) ((lk_ne (by omega) h62)) hsl hql hqS hqF) mX9_takeSlot kX9_149 dX9_applyTo_35 (by omega) lk_eq rfl (by decide) (Nat.le_of_ble_eq_true rfl) rfl (fun cq_5 hq_4 => ?_)
      obtain ⟨hTq, hfq⟩ := hq_4
      obtain ⟨-, -, Fq, hcq, hSq, hFq⟩ := (id hTq : Mt G _ 59 q)
      refine A_aload_n (q := 39) X dX9_applyTo_38 rfl rfl ?_
      refine A_sipush (q := 42) X dX9_applyTo_39 (by decide) rfl ?_
      refine A_aload_n (q := 43) X dX9_applyTo_42 rfl rfl ?_
      refine A_getf (q := 46) X fX9_13 dX9_applyTo_43 (by omega) ((hfq _ (by omega)).trans lk_eq) rfl rfl ?_
      refine A_V2i (q := 49) X (c_X9_putBehind hG hN (((hfq _ (by omega)).trans lk_eq)) (by decide) (hT.keep ((hfq 57 (by omega)).trans (lk_ne (by omega) rfl))) (hO.keep ((hfq 60 (by omega)).trans (lk_ne (by omega) rfl)))) mX9_putBehind kX9_145 dX9_applyTo_46 (by omega) ((hfq _ (by omega)).trans lk_eq) rfl (by decide) (Nat.le_of_ble_eq_true rfl) rfl (fun vq_8 cq_7 hq_6 => ?_)
      obtain ⟨rfl, hPb, hfb⟩ := hq_6
      refine A_istore_n (q := 50) X dX9_applyTo_49 (by decide) (okP_s rfl rfl) rfl ?_
      refine A_iconst (q := 51) X dX9_applyTo_50 rfl ?_
      refine A_istore_n (q := 52) X dX9_applyTo_51 (by decide) (okP_s rfl rfl) rfl ?_
      have e0 : ((1000 : Int) :: tm) ++ q.take 0 = (1000 : Int) :: tm := by rw [List.take_zero, List.append_nil]
      refine AW.loc (sS rfl (sN (sS (by rw [e0]; rfl) (sZ rfl rfl sE)))) (AW.mono (lp_X9_applyTo (q := q) X hG hN (((hfb _ (by omega)).trans ((hfq _ (by omega)).trans lk_eq))) (((hfb _ (by omega)).trans hcq)) hql hSq hFq hgd hgq (fun c2 hm2 hf2 => ⟨hN, ⟨_, _, _, ((hf2 _ (by omega)).trans ((hfb _ (by omega)).trans ((hfq _ (by omega)).trans lk_eq))), htw⟩, (hX.keep ((hf2 56 (by omega)).trans ((hfb 56 (by omega)).trans ((hfq 56 (by omega)).trans (lk_ne (by omega) rfl))))), (hT.keep ((hf2 57 (by omega)).trans ((hfb 57 (by omega)).trans ((hfq 57 (by omega)).trans (lk_ne (by omega) rfl))))), hgd, (hR8.keep ((hf2 58 (by omega)).trans ((hfb 58 (by omega)).trans ((hfq 58 (by omega)).trans (lk_ne (by omega) rfl))))), (hTq.mr.keep ((hf2 59 (by omega)).trans ((hfb 59 (by omega)).trans rfl))), hm2, (hH.keep ((hf2 61 (by omega)).trans ((hfb 61 (by omega)).trans ((hfq 61 (by omega)).trans (lk_ne (by omega) rfl))))), (hV.keep ((hf2 62 (by omega)).trans ((hfb 62 (by omega)).trans ((hfq 62 (by omega)).trans (lk_ne (by omega) rfl)))) ((hf2 63 (by omega)).trans ((hfb 63 (by omega)).trans ((hfq 63 (by omega)).trans (lk_ne (by omega) rfl))))), (hB.keep ((hf2 64 (by omega)).trans ((hfb 64 (by omega)).trans ((hfq 64 (by omega)).trans (lk_ne (by omega) rfl)))) ((hf2 65 (by omega)).trans ((hfb 65 (by omega)).trans ((hfq 65 (by omega)).trans (lk_ne (by omega) rfl))))), (hSc.keep ((hf2 66 (by omega)).trans ((hfb 66 (by omega)).trans ((hfq 66 (by omega)).trans (lk_ne (by omega) rfl)))) ((hf2 67 (by omega)).trans ((hfb 67 (by omega)).trans ((hfq 67 (by omega)).trans (lk_ne (by omega) rfl)))) ((hf2 68 (by omega)).trans ((hfb 68 (by omega)).trans ((hfq 68 (by omega)).trans (lk_ne (by omega) rfl))))), (hWd.keep ((hf2 69 (by omega)).trans ((hfb 69 (by omega)).trans ((hfq 69 (by omega)).trans (lk_ne (by omega) rfl)))) ((hf2 70 (by omega)).trans ((hfb 70 (by omega)).trans ((hfq 70 (by omega)).trans (lk_ne (by omega) rfl)))) ((hf2 71 (by omega)).trans ((hfb 71 (by omega)).trans ((hfq 71 (by omega)).trans (lk_ne (by omega) rfl)))))⟩) _ 0 _ (Nat.lt_succ_self _) (Nat.zero_le _) (by rw [e0]; exact hPb) (fun _ _ => rfl)) ?_)
      rintro r c9 ⟨v9, hv9, hA1, hA2, hf9⟩
      by_cases hbW : (1000 :: (tm ++ q)).length ≤ 200
      · obtain ⟨rfl, hW9⟩ := hA1 hbW
        have e9 : fApply ((sl : Nat) : Int) (tm, x, hs, s0, s1, o, sd) = ((((1000 :: (tm ++ q)).length : Nat) : Int), (1000 :: (tm ++ q), x, psh hs tm, s0, s1, o, sd)) := by unfold fApply; rw [if_pos (by omega), hs9, if_neg (by omega)]; rw [if_pos hbW]; rfl
        exact ⟨_, hv9, by rw [e9], by rw [e9]; exact hW9, (fun k n0 => (hf9 k n0).trans (((hfb k (by omega)).trans ((hfq k (by omega)).trans (lk_ne (by omega) rfl)))))⟩
      · obtain ⟨rfl, hW9⟩ := hA2 hbW
        have e9 : fApply ((sl : Nat) : Int) (tm, x, hs, s0, s1, o, sd) = (-4, (tm, x, hs, s0, s1, o, sd)) := by unfold fApply; rw [if_pos (by omega), hs9, if_neg (by omega)]; rw [if_neg hbW]
        exact ⟨_, hv9, by rw [e9], by rw [e9]; exact hW9, (fun k n0 => (hf9 k n0).trans (((hfb k (by omega)).trans ((hfq k (by omega)).trans (lk_ne (by omega) rfl)))))⟩
    · have hqz := hq.free (by omega)
      refine A_bipush (q := 28) X dX9_applyTo_26 (by decide) rfl ?_
      have e9 : fApply ((sl : Nat) : Int) (tm, x, hs, s0, s1, o, sd) = (-3, (tm, x, hs, s0, s1, o, sd)) := by unfold fApply; rw [if_pos (by omega), hs9, if_pos hqz]
      exact A_ireturn X dX9_applyTo_28 ⟨by rw [e9], by rw [e9]; exact ⟨hN, ⟨_, _, _, lk_eq, htw⟩, (hX.keep (lk_ne (by omega) rfl)), (hT.keep (lk_ne (by omega) rfl)), hgd, (hR8.keep (lk_ne (by omega) rfl)), (hR9.keep (lk_ne (by omega) rfl)), (hO.keep (lk_ne (by omega) rfl)), (hH.keep (lk_ne (by omega) rfl)), (hV.keep (lk_ne (by omega) rfl) (lk_ne (by omega) rfl)), (hB.keep (lk_ne (by omega) rfl) (lk_ne (by omega) rfl)), (hSc.keep (lk_ne (by omega) rfl) (lk_ne (by omega) rfl) (lk_ne (by omega) rfl)), (hWd.keep (lk_ne (by omega) rfl) (lk_ne (by omega) rfl) (lk_ne (by omega) rfl))⟩, (fun k n0 => (lk_ne (by omega) rfl))⟩
  · refine A_iconst (q := 16) X dX9_applyTo_15 rfl ?_
    have e9 : fApply p (tm, x, hs, s0, s1, o, sd) = (-1, (tm, x, hs, s0, s1, o, sd)) := by unfold fApply; rw [if_neg (by omega)]
    exact A_ireturn X dX9_applyTo_16 ⟨by rw [e9], by rw [e9]; exact ⟨hN, ⟨_, _, _, lk_eq, htw⟩, (hX.keep (lk_ne (by omega) rfl)), (hT.keep (lk_ne (by omega) rfl)), hgd, (hR8.keep (lk_ne (by omega) rfl)), (hR9.keep (lk_ne (by omega) rfl)), (hO.keep (lk_ne (by omega) rfl)), (hH.keep (lk_ne (by omega) rfl)), (hV.keep (lk_ne (by omega) rfl) (lk_ne (by omega) rfl)), (hB.keep (lk_ne (by omega) rfl) (lk_ne (by omega) rfl)), (hSc.keep (lk_ne (by omega) rfl) (lk_ne (by omega) rfl) (lk_ne (by omega) rfl)), (hWd.keep (lk_ne (by omega) rfl) (lk_ne (by omega) rfl) (lk_ne (by omega) rfl))⟩, (fun k n0 => (lk_ne (by omega) rfl))⟩
set_option maxRecDepth 100000 in
set_option maxHeartbeats 4000000 in
theorem lp2_X9_substitute {l : Launch} {G : Gm} {K : Cx} {c0 : HP} {q : List Int} {F H8 Fq D : Nat → Int} {j : Int} {tm x : List Int} {hs : List (List Int)} {s0 s1 : List Int} {o : List (Int × Int)} {sd : Int64} {th ts rmb obn tw pk : Int} (X : Fx l G K cX9_substitute 6 RX9 ((some .int)) (rmR 2 48)) (hG : injG G) (hN : G.2.1 = 72) (h055 : c0 55 = ob9 G th ts rmb obn sd tw pk) (h057 : c0 57 = aI G 201 F) (h058 : c0 58 = aI G 201 H8) (h059 : c0 59 = aI G 201 Fq) (h066 : c0 66 = aI G 201 D) (hl0 : tm.length ≤ 200) (hS : F 200 = ((tm.length : Nat) : Int)) (hF : ∀ k, k < tm.length → F k = tm.getD k 0) (hH8 : ∀ k, k < tm.length → H8 k = ((dp tm k : Nat) : Int)) (hql : q.length ≤ 200) (hSq : Fq 200 = ((q.length : Nat) : Int)) (hFq : ∀ k, k < q.length → Fq k = q.getD k 0) (hDq : ∀ k, k < q.length → D k = ((dp q k : Nat) : Int)) (hgd : Gd tm) (hgq : Gd q) (hj : 0 ≤ j ∧ j ≤ 9) (hW0 : ∀ c2 : HP, Mr G c2 60 → (∀ k, k ≠ 60 → c2 k = c0 k) → WM G c2 (tm, x, hs, s0, s1, o, sd)) : ∀ (n : Nat) (i : Nat) (c : HP), tm.length - i < n → i ≤ tm.length → Po G c (rp (tm.take i) [0] j q) → (∀ k, k ≠ 60 → c k = c0 k) → AW G K (Qi (fun v c' => ((rp tm [0] j q).length ≤ 200 → v = zI (((rp tm [0] j q).length : Nat) : Int) ∧ WM G c' (rp tm [0] j q, x, psh hs tm, s0, s1, o, sd)) ∧ (¬ (rp tm [0] j q).length ≤ 200 → v = zI (-4) ∧ WM G c' (tm, x, hs, s0, s1, o, sd)) ∧ (∀ k, k < 55 → c' k = c0 k))) 133 (mkL [some (.ref (G.1 55)), some (.int (zI j)), none, some (.int (zI (if (rp (tm.take i) [0] j q).length ≤ 200 then 1 else 0 : Int))), some (.int (zI ((i : Nat) : Int))), none]) [] c := by
  intro n
  induction n with
  | zero => intro i c hmz; exact absurd hmz (Nat.not_lt_zero _)
  | succ n ih =>
    intro i c hmz hi hPo hf0
    have h55 := (hf0 55 (by decide)).trans h055
    have h57 := (hf0 57 (by decide)).trans h057
    have h58 := (hf0 58 (by decide)).trans h058
    have h59 := (hf0 59 (by decide)).trans h059
    have h66 := (hf0 66 (by decide)).trans h066
    refine A_iload (q := 135) X dX9_substitute_133 rfl rfl ?_
    refine A_aload_n (q := 136) X dX9_substitute_135 rfl rfl ?_
    refine A_getf (q := 139) X fX9_13 dX9_substitute_136 (by omega) h55 rfl rfl ?_
    refine A_sipush (q := 142) X dX9_substitute_139 (by decide) rfl ?_
    refine A_iald (q := 143) (h := 57) 200 X dX9_substitute_142 (by omega) h57 (by omega) (by omega) (by decide) rfl ?_
    rw [hS]
    refine A_icmp_ge (q := 146) (t := 239) X dX9_substitute_143 (by omega) (by omega) rfl rfl (fun hb143 => ?_) (fun hb143 => ?_)
    · have ei : tm.take i = tm := List.take_of_length_le (by omega)
      rw [ei] at hPo ⊢
      refine A_iload_n (q := 240) X dX9_substitute_239 rfl rfl ?_
      refine A_beq (q := 243) (t := 250) X dX9_substitute_240 rfl rfl (fun hb240 => ?_) (fun hb240 => ?_)
      · refine A_bipush (q := 252) X dX9_substitute_250 (by decide) rfl ?_
        exact A_ireturn X dX9_substitute_252 ⟨fun q9 => absurd q9 hb240, fun _ => ⟨rfl, hW0 _ hPo.2.choose_spec.mr hf0⟩, fun k n0 => hf0 k (by omega)⟩
      · refine A_aload_n (q := 244) X dX9_substitute_243 rfl rfl ?_
        refine A_V0i (q := 247) X (c_X9_commit hG (hW0 _ hPo.2.choose_spec.mr hf0) (hPo.1 hb240) (Gd_rp hgd hgq hj.1 hb240)) mX9_commit kX9_140 dX9_substitute_244 (by omega) h55 rfl (by decide) (Nat.le_of_ble_eq_true rfl) rfl (fun vq_3 cq_2 hq_1 => ?_)
        obtain ⟨rfl, hWc, hfc9⟩ := hq_1
        refine A_goto (q := 252) X dX9_substitute_247 rfl ?_
        exact A_ireturn X dX9_substitute_252 ⟨fun _ => ⟨rfl, hWc⟩, fun q9 => absurd hb240 q9, fun k n0 => (hfc9 k n0).trans (hf0 k (by omega))⟩
    · refine A_iload_n (q := 147) X dX9_substitute_146 rfl rfl ?_
      refine A_beq (q := 150) (t := 239) X dX9_substitute_147 rfl rfl (fun hb147 => ?_) (fun hb147 => ?_)
      · have hbig : ¬ (rp tm [0] j q).length ≤ 200 := fun z => hb147 (by rw [show tm = tm.take i ++ tm.drop i from (List.take_append_drop i tm).symm, rp_app, List.length_append] at z; omega)
        have hPo := hPo.big hbig
        rw [show zI (if (rp (tm.take i) [0] j q).length ≤ 200 then 1 else 0 : Int) = zI (if (rp tm [0] j q).length ≤ 200 then 1 else 0 : Int) from by rw [if_neg hb147, if_neg hbig]]
        refine A_iload_n (q := 240) X dX9_substitute_239 rfl rfl ?_
        refine A_beq (q := 243) (t := 250) X dX9_substitute_240 rfl rfl (fun hb240 => ?_) (fun hb240 => ?_)
        · refine A_bipush (q := 252) X dX9_substitute_250 (by decide) rfl ?_
          exact A_ireturn X dX9_substitute_252 ⟨fun q9 => absurd q9 hb240, fun _ => ⟨rfl, hW0 _ hPo.2.choose_spec.mr hf0⟩, fun k n0 => hf0 k (by omega)⟩
        · refine A_aload_n (q := 244) X dX9_substitute_243 rfl rfl ?_
          refine A_V0i (q := 247) X (c_X9_commit hG (hW0 _ hPo.2.choose_spec.mr hf0) (hPo.1 hb240) (Gd_rp hgd hgq hj.1 hb240)) mX9_commit kX9_140 dX9_substitute_244 (by omega) h55 rfl (by decide) (Nat.le_of_ble_eq_true rfl) rfl (fun vq_6 cq_5 hq_4 => ?_)
          obtain ⟨rfl, hWc, hfc9⟩ := hq_4
          refine A_goto (q := 252) X dX9_substitute_247 rfl ?_
          exact A_ireturn X dX9_substitute_252 ⟨fun _ => ⟨rfl, hWc⟩, fun q9 => absurd hb240 q9, fun k n0 => (hfc9 k n0).trans (hf0 k (by omega))⟩
      · have hil : i < tm.length := by omega
        have hrt := rp_take (r := q) (j := j) hgd.one hil
        have htb := hgd.at hil
        have hFt := hF i hil
        have hdpl := dp_le tm i
        have hHi := hH8 i hil
        generalize tm.getD i 0 = t at hrt htb hFt
        unfold pcr at hrt
        refine A_aload_n (q := 151) X dX9_substitute_150 rfl rfl ?_
        refine A_getf (q := 154) X fX9_13 dX9_substitute_151 (by omega) h55 rfl rfl ?_
        refine A_iload (q := 156) X dX9_substitute_154 rfl rfl ?_
        refine A_iald (q := 157) (h := 57) (i) X dX9_substitute_156 (by omega) h57 (by omega) (by omega) (by decide) rfl ?_
        rw [hFt]
        refine A_S1i (q := 160) X (c_X9_isVariable hG (by omega)) mX9_isVariable kX9_68 dX9_substitute_157 (by decide) (Nat.le_of_ble_eq_true rfl) rfl (fun vq_9 cq_8 hq_7 => ?_)
        obtain ⟨rfl, hq_7⟩ := hq_7
        obtain rfl := hq_7.symm
        refine A_beq (q := 163) (t := 186) X dX9_substitute_160 rfl rfl (fun hb160 => ?_) (fun hb160 => ?_)
        · refine A_iconst (q := 187) X dX9_substitute_186 rfl ?_
          refine A_istore (q := 189) X dX9_substitute_187 (by decide) (okP_s rfl rfl) rfl ?_
          refine A_iload (q := 191) X dX9_substitute_189 rfl rfl ?_
          refine A_if_eq (q := 194) (t := 221) X dX9_substitute_191 (by decide) rfl rfl (fun hb191 => ?_) (fun hb191 => ?_)
          · refine A_aload_n (q := 222) X dX9_substitute_221 rfl rfl ?_
            refine A_aload_n (q := 223) X dX9_substitute_222 rfl rfl ?_
            refine A_getf (q := 226) X fX9_13 dX9_substitute_223 (by omega) h55 rfl rfl ?_
            refine A_iload (q := 228) X dX9_substitute_226 rfl rfl ?_
            refine A_iald (q := 229) (h := 57) (i) X dX9_substitute_228 (by omega) h57 (by omega) (by omega) (by decide) rfl ?_
            rw [hFt]
            refine A_V1i (q := 232) X (c_X9_put (w := (rp (tm.take i) [0] j q)) (t := t) hG hN h55 hPo hb147) mX9_put kX9_83 dX9_substitute_229 (by omega) h55 rfl (by decide) (Nat.le_of_ble_eq_true rfl) rfl (fun vq_12 cq_11 hq_10 => ?_)
            obtain ⟨rfl, hPo_13, hfp_14⟩ := hq_10
            refine A_istore_n (q := 233) X dX9_substitute_232 (by decide) (okP_n rfl) rfl ?_
            refine A_iinc (q := 236) X dX9_substitute_233 rfl (by decide) (okP_s rfl rfl) rfl ?_
            refine A_goto (q := 133) X dX9_substitute_236 rfl ?_
            have eW : rp (tm.take (i + 1)) [0] j q = ((rp (tm.take i) [0] j q) ++ [t]) := by rw [hrt]; first | rw [if_pos (by omega)] | rw [if_neg (by omega)]
            exact AW.loc (sS rfl (sS rfl (sN (sS (by rw [eW]; rfl) (sZ rfl (by omega) (sN sE)))))) (ih (i + 1) _ (by omega) (by omega) (by rw [eW]; exact hPo_13) (fun k n0 => ((hfp_14 k (by omega)).trans (hf0 k n0))))
          · exact absurd hb191 (by decide)
        · refine A_aload_n (q := 164) X dX9_substitute_163 rfl rfl ?_
          refine A_getf (q := 167) X fX9_13 dX9_substitute_164 (by omega) h55 rfl rfl ?_
          refine A_iload (q := 169) X dX9_substitute_167 rfl rfl ?_
          refine A_iald (q := 170) (h := 57) (i) X dX9_substitute_169 (by omega) h57 (by omega) (by omega) (by decide) rfl ?_
          rw [hFt]
          refine A_aload_n (q := 171) X dX9_substitute_170 rfl rfl ?_
          refine A_getf (q := 174) X fX9_16 dX9_substitute_171 (by omega) h55 rfl rfl ?_
          refine A_iload (q := 176) X dX9_substitute_174 rfl rfl ?_
          refine A_iald (q := 177) (h := 58) (i) X dX9_substitute_176 (by omega) h58 (by omega) (by omega) (by decide) rfl ?_
          rw [hHi]
          refine A_isub (q := 178) X dX9_substitute_177 rfl ?_
          refine A_iload_n (q := 179) X dX9_substitute_178 rfl rfl ?_
          refine A_icmp_ne (q := 182) (t := 186) X dX9_substitute_179 (by omega) (by omega) rfl rfl (fun hb179 => ?_) (fun hb179 => ?_)
          · refine A_iconst (q := 187) X dX9_substitute_186 rfl ?_
            refine A_istore (q := 189) X dX9_substitute_187 (by decide) (okP_s rfl rfl) rfl ?_
            refine A_iload (q := 191) X dX9_substitute_189 rfl rfl ?_
            refine A_if_eq (q := 194) (t := 221) X dX9_substitute_191 (by decide) rfl rfl (fun hb191 => ?_) (fun hb191 => ?_)
            · refine A_aload_n (q := 222) X dX9_substitute_221 rfl rfl ?_
              refine A_aload_n (q := 223) X dX9_substitute_222 rfl rfl ?_
              refine A_getf (q := 226) X fX9_13 dX9_substitute_223 (by omega) h55 rfl rfl ?_
              refine A_iload (q := 228) X dX9_substitute_226 rfl rfl ?_
              refine A_iald (q := 229) (h := 57) (i) X dX9_substitute_228 (by omega) h57 (by omega) (by omega) (by decide) rfl ?_
              rw [hFt]
              refine A_V1i (q := 232) X (c_X9_put (w := (rp (tm.take i) [0] j q)) (t := t) hG hN h55 hPo hb147) mX9_put kX9_83 dX9_substitute_229 (by omega) h55 rfl (by decide) (Nat.le_of_ble_eq_true rfl) rfl (fun vq_17 cq_16 hq_15 => ?_)
              obtain ⟨rfl, hPo_18, hfp_19⟩ := hq_15
              refine A_istore_n (q := 233) X dX9_substitute_232 (by decide) (okP_n rfl) rfl ?_
              refine A_iinc (q := 236) X dX9_substitute_233 rfl (by decide) (okP_s rfl rfl) rfl ?_
              refine A_goto (q := 133) X dX9_substitute_236 rfl ?_
              have eW : rp (tm.take (i + 1)) [0] j q = ((rp (tm.take i) [0] j q) ++ [t]) := by rw [hrt]; first | rw [if_pos (by omega)] | rw [if_neg (by omega)]
              exact AW.loc (sS rfl (sS rfl (sN (sS (by rw [eW]; rfl) (sZ rfl (by omega) (sN sE)))))) (ih (i + 1) _ (by omega) (by omega) (by rw [eW]; exact hPo_18) (fun k n0 => ((hfp_19 k (by omega)).trans (hf0 k n0))))
            · exact absurd hb191 (by decide)
          · refine A_iconst (q := 183) X dX9_substitute_182 rfl ?_
            refine A_goto (q := 187) X dX9_substitute_183 rfl ?_
            refine A_istore (q := 189) X dX9_substitute_187 (by decide) (okP_s rfl rfl) rfl ?_
            refine A_iload (q := 191) X dX9_substitute_189 rfl rfl ?_
            refine A_if_eq (q := 194) (t := 221) X dX9_substitute_191 (by decide) rfl rfl (fun hb191 => ?_) (fun hb191 => ?_)
            · exact absurd hb191 (by decide)
            · refine A_aload_n (q := 195) X dX9_substitute_194 rfl rfl ?_
              refine A_aload_n (q := 196) X dX9_substitute_195 rfl rfl ?_
              refine A_getf (q := 199) X fX9_19 dX9_substitute_196 (by omega) h55 rfl rfl ?_
              refine A_iconst (q := 200) X dX9_substitute_199 rfl ?_
              refine A_aload_n (q := 201) X dX9_substitute_200 rfl rfl ?_
              refine A_getf (q := 204) X fX9_19 dX9_substitute_201 (by omega) h55 rfl rfl ?_
              refine A_sipush (q := 207) X dX9_substitute_204 (by decide) rfl ?_
              refine A_iald (q := 208) (h := 59) 200 X dX9_substitute_207 (by omega) h59 (by omega) (by omega) (by decide) rfl ?_
              rw [hSq]
              refine A_aload_n (q := 209) X dX9_substitute_208 rfl rfl ?_
              refine A_getf (q := 212) X fX9_16 dX9_substitute_209 (by omega) h55 rfl rfl ?_
              refine A_iload (q := 214) X dX9_substitute_212 rfl rfl ?_
              refine A_iald (q := 215) (h := 58) (i) X dX9_substitute_214 (by omega) h58 (by omega) (by omega) (by decide) rfl ?_
              rw [hHi]
              rw [show zI ((q.length : Nat) : Int) = zI ((0 + q.length : Nat) : Int) from congrArg zI (by omega), show zI 0 = zI ((0 : Nat) : Int) from rfl]
              refine A_V4i (q := 218) X (c_X9_putShifted (x := q) (fm := 0) (by_ := dp tm i) hG hN h55 (by omega) (by decide) h59 h66 hgq.one (fun t ht => by have := hgq.tok ht; omega) (by omega) (fun k hk => by rw [Nat.zero_add]; exact hFq k hk) (fun k hk => by rw [Nat.zero_add]; exact hDq k hk) (by omega) hPo hb147) mX9_putShifted kX9_90 dX9_substitute_215 (by omega) h55 rfl (by decide) (Nat.le_of_ble_eq_true rfl) rfl (fun vq_22 cq_21 hq_20 => ?_)
              obtain ⟨rfl, hPs, hfs⟩ := hq_20
              refine A_goto (q := 232) X dX9_substitute_218 rfl ?_
              refine A_istore_n (q := 233) X dX9_substitute_232 (by decide) (okP_n rfl) rfl ?_
              refine A_iinc (q := 236) X dX9_substitute_233 rfl (by decide) (okP_s rfl rfl) rfl ?_
              refine A_goto (q := 133) X dX9_substitute_236 rfl ?_
              have eW : rp (tm.take (i + 1)) [0] j q = ((rp (tm.take i) [0] j q) ++ shf q [0] (dp tm i)) := by rw [hrt]; first | rw [if_pos (by omega)] | rw [if_neg (by omega)]
              exact AW.loc (sS rfl (sS rfl (sN (sS (by rw [eW]; rfl) (sZ rfl (by omega) (sN sE)))))) (ih (i + 1) _ (by omega) (by omega) (by rw [eW]; exact hPs) (fun k n0 => ((hfs k (by omega)).trans (hf0 k n0))))
set_option maxRecDepth 100000 in
set_option maxHeartbeats 4000000 in
theorem lp1_X9_substitute {l : Launch} {G : Gm} {K : Cx} {c0 : HP} {q : List Int} {F F6 Fq D Oq Bq : Nat → Int} {j : Int} {tm x : List Int} {hs : List (List Int)} {s0 s1 : List Int} {o : List (Int × Int)} {sd : Int64} {th ts rmb obn tw pk : Int} (X : Fx l G K cX9_substitute 6 RX9 ((some .int)) (rmR 2 48)) (hG : injG G) (hN : G.2.1 = 72) (h055 : c0 55 = ob9 G th ts rmb obn sd tw pk) (h057 : c0 57 = aI G 201 F) (h059 : c0 59 = aI G 201 Fq) (h060 : c0 60 = aI G 201 F6) (h066 : c0 66 = aI G 201 D) (h067 : c0 67 = aI G 201 Oq) (h068 : c0 68 = aZ G 201 Bq) (hl0 : tm.length ≤ 200) (hS : F 200 = ((tm.length : Nat) : Int)) (hF : ∀ k, k < tm.length → F k = tm.getD k 0) (hD : ∀ k, k < tm.length → D k = ((dp tm k : Nat) : Int)) (hql : q.length ≤ 200) (hSq : Fq 200 = ((q.length : Nat) : Int)) (hFq : ∀ k, k < q.length → Fq k = q.getD k 0) (hgd : Gd tm) (hgq : Gd q) (hj : 0 ≤ j ∧ j ≤ 9) (hW1 : ∀ c2 : HP, Mr G c2 58 → Mr G c2 60 → Sc G c2 → (∀ k, k ≠ 58 → k ≠ 60 → k ≠ 66 → k ≠ 67 → k ≠ 68 → c2 k = c0 k) → WM G c2 (tm, x, hs, s0, s1, o, sd)) : ∀ (n : Nat) (i : Nat) (H : Nat → Int) (c : HP), tm.length - i < n → i ≤ tm.length → c 58 = aI G 201 H → (∀ k, k < i → H k = ((dp tm k : Nat) : Int)) → (∀ k, k ≠ 58 → c k = c0 k) → AW G K (Qi (fun v c' => ((rp tm [0] j q).length ≤ 200 → v = zI (((rp tm [0] j q).length : Nat) : Int) ∧ WM G c' (rp tm [0] j q, x, psh hs tm, s0, s1, o, sd)) ∧ (¬ (rp tm [0] j q).length ≤ 200 → v = zI (-4) ∧ WM G c' (tm, x, hs, s0, s1, o, sd)) ∧ (∀ k, k < 55 → c' k = c0 k))) 72 (mkL [some (.ref (G.1 55)), some (.int (zI j)), none, some (.int (zI ((i : Nat) : Int))), none, none]) [] c := by
  intro n
  induction n with
  | zero => intro i H c hmz; exact absurd hmz (Nat.not_lt_zero _)
  | succ n ih =>
    intro i H c hmz hi h58 hH hf0
    have h55 := (hf0 55 (by decide)).trans h055
    have h57 := (hf0 57 (by decide)).trans h057
    have h59 := (hf0 59 (by decide)).trans h059
    have h60 := (hf0 60 (by decide)).trans h060
    have h66 := (hf0 66 (by decide)).trans h066
    have h67 := (hf0 67 (by decide)).trans h067
    have h68 := (hf0 68 (by decide)).trans h068
    refine A_iload_n (q := 73) X dX9_substitute_72 rfl rfl ?_
    refine A_aload_n (q := 74) X dX9_substitute_73 rfl rfl ?_
    refine A_getf (q := 77) X fX9_13 dX9_substitute_74 (by omega) h55 rfl rfl ?_
    refine A_sipush (q := 80) X dX9_substitute_77 (by decide) rfl ?_
    refine A_iald (q := 81) (h := 57) 200 X dX9_substitute_80 (by omega) h57 (by omega) (by omega) (by decide) rfl ?_
    rw [hS]
    refine A_icmp_ge (q := 84) (t := 102) X dX9_substitute_81 (by omega) (by omega) rfl rfl (fun hb81 => ?_) (fun hb81 => ?_)
    · refine A_aload_n (q := 103) X dX9_substitute_102 rfl rfl ?_
      refine A_aload_n (q := 104) X dX9_substitute_103 rfl rfl ?_
      refine A_getf (q := 107) X fX9_19 dX9_substitute_104 (by omega) h55 rfl rfl ?_
      refine A_iconst (q := 108) X dX9_substitute_107 rfl ?_
      refine A_aload_n (q := 109) X dX9_substitute_108 rfl rfl ?_
      refine A_getf (q := 112) X fX9_19 dX9_substitute_109 (by omega) h55 rfl rfl ?_
      refine A_sipush (q := 115) X dX9_substitute_112 (by decide) rfl ?_
      refine A_iald (q := 116) (h := 59) 200 X dX9_substitute_115 (by omega) h59 (by omega) (by omega) (by decide) rfl ?_
      rw [hSq]
      rw [show zI ((q.length : Nat) : Int) = zI ((0 + q.length : Nat) : Int) from congrArg zI (by omega), show zI 0 = zI ((0 : Nat) : Int) from rfl]
      refine A_V3v (q := 119) X (c_X9_layDepths (x := q) (fm := 0) hG hN (h55) (by omega) (by decide) (h59) hgq.one (fun t ht => by have := hgq.tok ht; omega) (by omega) (fun i hi => by rw [Nat.zero_add]; exact hFq i hi) (h66) (h67) (h68)) mX9_layDepths kX9_86 dX9_substitute_116 (by omega) h55 rfl (by decide) (Nat.le_of_ble_eq_true rfl) rfl (fun cq_2 hq_1 => ?_)
      obtain ⟨⟨D2, h662, hD2, -⟩, ⟨O2, h672⟩, ⟨B2, h682⟩, hfl⟩ := hq_1
      have hSc3 : Sc G cq_2 := ⟨⟨_, h662⟩, ⟨_, h672⟩, ⟨_, h682⟩⟩
      have hD3 : ∀ j, j < q.length → D2 j = ((dp q j : Nat) : Int) := fun j hj => by have := hD2 j hj; rw [Nat.zero_add] at this; exact this
      refine A_aload_n (q := 120) X dX9_substitute_119 rfl rfl ?_
      refine A_getf (q := 123) X fX9_22 dX9_substitute_120 (by omega) ((hfl _ (by omega) (by omega) (by omega)).trans h55) rfl rfl ?_
      refine A_sipush (q := 126) X dX9_substitute_123 (by decide) rfl ?_
      refine A_iconst (q := 127) X dX9_substitute_126 rfl ?_
      refine A_iast (q := 128) (h := 60) 200 X dX9_substitute_127 (by omega) ((hfl _ (by omega) (by omega) (by omega)).trans h60) (by omega) (by omega) (by decide) rfl ?_
      refine A_iconst (q := 129) X dX9_substitute_128 rfl ?_
      refine A_istore_n (q := 130) X dX9_substitute_129 (by decide) (okP_n rfl) rfl ?_
      refine A_iconst (q := 131) X dX9_substitute_130 rfl ?_
      refine A_istore (q := 133) X dX9_substitute_131 (by decide) (okP_s rfl rfl) rfl ?_
      have hm : ∀ c2 : HP, c2 60 = aI G 201 (va_up F6 200 0) → Mt G c2 60 [] := fun c2 h2 => ⟨by omega, by decide, _, h2, lk_eq, fun k hk => absurd hk (Nat.not_lt_zero _)⟩
      have e0 : rp (tm.take 0) [0] j q = [] := by rw [List.take_zero, rp_nil]
      refine AW.loc (sS rfl (sS rfl (sN (sS (congrArg (fun z => some (Value.int z)) (show zI 1 = zI (if (rp (tm.take 0) [0] j q).length ≤ 200 then 1 else 0) from zb1 (by rw [e0]; decide))) (sZ rfl rfl (sN sE)))))) (AW.mono (lp2_X9_substitute (q := q) X hG hN ((lk_ne (by omega) ((hfl _ (by omega) (by omega) (by omega)).trans h55))) ((lk_ne (by omega) ((hfl _ (by omega) (by omega) (by omega)).trans h57))) ((lk_ne (by omega) ((hfl _ (by omega) (by omega) (by omega)).trans h58))) ((lk_ne (by omega) ((hfl _ (by omega) (by omega) (by omega)).trans h59))) ((lk_ne (by omega) h662)) hl0 hS hF (fun k hk => hH k (by omega)) hql hSq hFq hD3 hgd hgq hj (fun c2 hm2 hf2 => hW1 c2 ⟨by omega, H, (hf2 58 (by decide)).trans ((lk_ne (by omega) ((hfl _ (by omega) (by omega) (by omega)).trans h58)))⟩ hm2 (hSc3.keep ((hf2 66 (by decide)).trans ((lk_ne (by omega) rfl))) ((hf2 67 (by decide)).trans ((lk_ne (by omega) rfl))) ((hf2 68 (by decide)).trans ((lk_ne (by omega) rfl)))) (fun k n0 n1 n2 n3 n4 => (hf2 k n1).trans ((lk_ne (by omega) ((hfl k (by omega) (by omega) (by omega)).trans (hf0 k n0)))))) _ 0 _ (Nat.lt_succ_self _) (Nat.zero_le _) (by rw [e0]; exact ⟨fun _ => hm _ (lk_eq), _, hm _ (lk_eq)⟩) (fun _ _ => rfl)) ?_)
      rintro r c9 ⟨v9, hv9, hA1, hA2, hf9⟩
      exact ⟨v9, hv9, hA1, hA2, fun k n0 => (hf9 k n0).trans ((lk_ne (by omega) ((hfl k (by omega) (by omega) (by omega)).trans (hf0 k (by omega)))))⟩
    · refine A_aload_n (q := 85) X dX9_substitute_84 rfl rfl ?_
      refine A_getf (q := 88) X fX9_16 dX9_substitute_85 (by omega) h55 rfl rfl ?_
      refine A_iload_n (q := 89) X dX9_substitute_88 rfl rfl ?_
      refine A_aload_n (q := 90) X dX9_substitute_89 rfl rfl ?_
      refine A_getf (q := 93) X fX9_41 dX9_substitute_90 (by omega) h55 rfl rfl ?_
      refine A_iload_n (q := 94) X dX9_substitute_93 rfl rfl ?_
      refine A_iald (q := 95) (h := 66) (i) X dX9_substitute_94 (by omega) h66 (by omega) (by omega) (by decide) rfl ?_
      rw [hD i (by omega)]
      refine A_iast (q := 96) (h := 58) (i) X dX9_substitute_95 (by omega) h58 (by omega) (by omega) (by decide) rfl ?_
      refine A_iinc (q := 99) X dX9_substitute_96 rfl (by decide) (okP_n rfl) rfl ?_
      refine A_goto (q := 72) X dX9_substitute_99 rfl ?_
      exact AW.loc (sS rfl (sS rfl (sN (sZ rfl (by omega) (sN (sN sE)))))) (ih (i + 1) _ _ (by omega) (by omega) (lk_eq) (fun k hk => by by_cases e : k = i; (subst e; exact lk_eq); exact lk_ne e (hH k (by omega))) (fun k n0 => lk_ne n0 (hf0 k n0)))
set_option maxRecDepth 100000 in
set_option maxHeartbeats 4000000 in
theorem c_X9_substitute {l : Launch} {G : Gm} {c : HP} {tm x : List Int} {hs : List (List Int)} {s0 s1 : List Int} {o : List (Int × Int)} {sd : Int64} {j p : Int} (hG : injG G) (hjr : rg j) (hpr : rg p) (hW : WM G c (tm, x, hs, s0, s1, o, sd)) : AMet l G yX9_substitute cX9_substitute 6 ((some .int)) (rmR 2 48) [.ref (G.1 55), .int (zI j), .int (zI p)] c (Qi (fun v c' => v = zI (fSubst j p (tm, x, hs, s0, s1, o, sd)).1 ∧ WM G c' (fSubst j p (tm, x, hs, s0, s1, o, sd)).2 ∧ (∀ k, k < 55 → c' k = c k))) := by
  refine AMet.of (vl := [some (.ref (G.1 55)), some (.int (zI j)), some (.int (zI p))]) (by decide) hG (Nat.le_of_ble_eq_true rfl) rfl ?_
  intro K X
  have X : Fx l G K cX9_substitute 6 RX9 ((some .int)) (rmR 2 48) := X
  obtain ⟨hN, ⟨th, tw, pk, h55, htw⟩, hX, hT, hgd, hR8, hR9, hO, hH, hV, hB, hSc, hWd⟩ := hW
  dsimp only at h55 hX hT hgd hH hV hB
  have hl0 := hT.len
  have hxl := hX.1
  have hhl := hH.1
  have hol := hB.1
  have hV0 := hV
  obtain ⟨FS, U, h62, h63, hV1, hV2⟩ := hV0
  have hT0 := hT
  obtain ⟨ha0, -, F, h57, hS, hF⟩ := hT0
  have hSc0 := hSc
  obtain ⟨⟨Dq, h66q⟩, ⟨Oq, h67q⟩, ⟨Bq, h68q⟩⟩ := hSc0
  obtain ⟨-, F8, h58⟩ := (id hR8 : Mr G c 58)
  obtain ⟨-, F6, h60⟩ := (id hO : Mr G c 60)
  refine A_aload_n (q := 1) X dX9_substitute_0 rfl rfl ?_
  refine A_iconst (q := 2) X dX9_substitute_1 rfl ?_
  refine A_putf (q := 5) X pX9_59 dX9_substitute_2 (by omega) h55 (Nat.le_of_ble_eq_true rfl) rfl rfl rfl ?_
  refine A_iload_n (q := 6) X dX9_substitute_5 rfl rfl ?_
  refine A_i2l (q := 7) X dX9_substitute_6 rfl ?_
  refine A_lconst (q := 8) (v := 0) X dX9_substitute_7 rfl rfl ?_
  refine A_lconst (q := 9) (v := 1) X dX9_substitute_8 rfl rfl ?_
  refine A_S3i (q := 12) X (c_inZ (a := p) (b := 0) (d := 1) hG rfl (by decide) (by decide) (by omega) (by omega) (by omega)) mX9_in kX9_114 dX9_substitute_9 (by decide) (Nat.le_of_ble_eq_true rfl) rfl (fun vq_3 cq_2 hq_1 => ?_)
  obtain ⟨rfl, hq_1⟩ := hq_1
  obtain rfl := hq_1.symm
  refine A_bne (q := 15) (t := 17) X dX9_substitute_12 rfl rfl (fun hb12 => ?_) (fun hb12 => ?_)
  · obtain ⟨sl, rfl⟩ : ∃ sl : Nat, p = ((sl : Nat) : Int) := ⟨p.toNat, by omega⟩
    have hsl : sl ≤ 1 := by omega
    have hq : SlR FS U sl (sltS (tm, x, hs, s0, s1, o, sd) ((sl : Nat) : Int)) := sl_get hsl hV1 hV2
    obtain ⟨q, hs9⟩ : ∃ q, sltS (tm, x, hs, s0, s1, o, sd) ((sl : Nat) : Int) = q := ⟨_, rfl⟩
    rw [hs9] at hq
    have hU01 := hq.b01
    refine A_iload_n (q := 18) X dX9_substitute_17 rfl rfl ?_
    refine A_i2l (q := 19) X dX9_substitute_18 rfl ?_
    refine A_lconst (q := 20) (v := 0) X dX9_substitute_19 rfl rfl ?_
    refine A_ldc2 (q := 23) X dX9_substitute_20 nX9_153 rfl ?_
    refine A_S3i (q := 26) X (c_inZ (a := j) (b := 0) (d := 9) hG rfl (by decide) (by decide) (by omega) (by omega) (by omega)) mX9_in kX9_114 dX9_substitute_23 (by decide) (Nat.le_of_ble_eq_true rfl) rfl (fun vq_6 cq_5 hq_4 => ?_)
    obtain ⟨rfl, hq_4⟩ := hq_4
    obtain rfl := hq_4.symm
    refine A_bne (q := 29) (t := 32) X dX9_substitute_26 rfl rfl (fun hb26 => ?_) (fun hb26 => ?_)
    · refine A_aload_n (q := 33) X dX9_substitute_32 rfl rfl ?_
      refine A_getf (q := 36) X fX9_31 dX9_substitute_33 (by omega) lk_eq rfl rfl ?_
      refine A_iload_n (q := 37) X dX9_substitute_36 rfl rfl ?_
      refine A_zald (q := 38) (h := 63) (sl) X dX9_substitute_37 (by omega) (lk_ne (by omega) h63) (by omega) (by omega) (by decide) rfl ?_
      refine A_if_ne (q := 41) (t := 44) X dX9_substitute_38 (by omega) rfl rfl (fun hb38 => ?_) (fun hb38 => ?_)
      · have hqn := hq.used hb38
        obtain ⟨hql, hqS, hqF⟩ := hq.2.1 hqn
        have hgq : Gd q := hq.2.2.resolve_left hqn
        have hqp := hgq.pos
        refine A_aload_n (q := 45) X dX9_substitute_44 rfl rfl ?_
        refine A_iload_n (q := 46) X dX9_substitute_45 rfl rfl ?_
        refine A_aload_n (q := 47) X dX9_substitute_46 rfl rfl ?_
        refine A_getf (q := 50) X fX9_19 dX9_substitute_47 (by omega) lk_eq rfl rfl ?_
        refine A_V2v (q := 53) X (c_X9_takeSlot (sl := sl) (t := q) hG hN (lk_eq) (hR9.keep (lk_ne (by omega) rfl)) (by decide) ((lk_ne (by omega) h62)) hsl hql hqS hqF) mX9_takeSlot kX9_149 dX9_substitute_50 (by omega) lk_eq rfl (by decide) (Nat.le_of_ble_eq_true rfl) rfl (fun cq_8 hq_7 => ?_)
        obtain ⟨hTq, hfq⟩ := hq_7
        obtain ⟨-, -, Fq, hcq, hSq, hFq⟩ := (id hTq : Mt G _ 59 q)
        refine A_aload_n (q := 54) X dX9_substitute_53 rfl rfl ?_
        refine A_aload_n (q := 55) X dX9_substitute_54 rfl rfl ?_
        refine A_getf (q := 58) X fX9_13 dX9_substitute_55 (by omega) ((hfq _ (by omega)).trans lk_eq) rfl rfl ?_
        refine A_iconst (q := 59) X dX9_substitute_58 rfl ?_
        refine A_aload_n (q := 60) X dX9_substitute_59 rfl rfl ?_
        refine A_getf (q := 63) X fX9_13 dX9_substitute_60 (by omega) ((hfq _ (by omega)).trans lk_eq) rfl rfl ?_
        refine A_sipush (q := 66) X dX9_substitute_63 (by decide) rfl ?_
        refine A_iald (q := 67) (h := 57) 200 X dX9_substitute_66 (by omega) ((hfq _ (by omega)).trans (lk_ne (by omega) h57)) (by omega) (by omega) (by decide) rfl ?_
        rw [hS]
        rw [show zI ((tm.length : Nat) : Int) = zI ((0 + tm.length : Nat) : Int) from congrArg zI (by omega), show zI 0 = zI ((0 : Nat) : Int) from rfl]
        refine A_V3v (q := 70) X (c_X9_layDepths (x := tm) (fm := 0) hG hN (((hfq _ (by omega)).trans lk_eq)) ha0 (by decide) (((hfq _ (by omega)).trans (lk_ne (by omega) h57))) hgd.one (fun t ht => by have := hgd.tok ht; omega) (by omega) (fun i hi => by rw [Nat.zero_add]; exact hF i hi) (((hfq _ (by omega)).trans (lk_ne (by omega) h66q))) (((hfq _ (by omega)).trans (lk_ne (by omega) h67q))) (((hfq _ (by omega)).trans (lk_ne (by omega) h68q)))) mX9_layDepths kX9_86 dX9_substitute_67 (by omega) ((hfq _ (by omega)).trans lk_eq) rfl (by decide) (Nat.le_of_ble_eq_true rfl) rfl (fun cq_10 hq_9 => ?_)
        obtain ⟨⟨D2, h662, hD2, -⟩, ⟨O2, h672⟩, ⟨B2, h682⟩, hfl⟩ := hq_9
        have hSc3 : Sc G cq_10 := ⟨⟨_, h662⟩, ⟨_, h672⟩, ⟨_, h682⟩⟩
        have hD3 : ∀ j, j < tm.length → D2 j = ((dp tm j : Nat) : Int) := fun j hj => by have := hD2 j hj; rw [Nat.zero_add] at this; exact this
        refine A_iconst (q := 71) X dX9_substitute_70 rfl ?_
        refine A_istore_n (q := 72) X dX9_substitute_71 (by decide) (okP_s rfl rfl) rfl ?_
        refine AW.loc (sS rfl (sS rfl (sN (sZ rfl rfl (sN (sN sE)))))) (AW.mono (lp1_X9_substitute (q := q) X hG hN (((hfl _ (by omega) (by omega) (by omega)).trans ((hfq _ (by omega)).trans lk_eq))) (((hfl _ (by omega) (by omega) (by omega)).trans ((hfq _ (by omega)).trans (lk_ne (by omega) h57)))) (((hfl _ (by omega) (by omega) (by omega)).trans hcq)) (((hfl _ (by omega) (by omega) (by omega)).trans ((hfq _ (by omega)).trans (lk_ne (by omega) h60)))) (h662) (h672) (h682) hl0 hS hF hD3 hql hSq hFq hgd hgq (by omega) (fun c2 hm8 hm2 hms hf2 => ⟨hN, ⟨_, _, _, ((hf2 _ (by omega) (by omega) (by omega) (by omega) (by omega)).trans ((hfl _ (by omega) (by omega) (by omega)).trans ((hfq _ (by omega)).trans lk_eq))), htw⟩, (hX.keep ((hf2 56 (by omega) (by omega) (by omega) (by omega) (by omega)).trans ((hfl 56 (by omega) (by omega) (by omega)).trans ((hfq 56 (by omega)).trans (lk_ne (by omega) rfl))))), (hT.keep ((hf2 57 (by omega) (by omega) (by omega) (by omega) (by omega)).trans ((hfl 57 (by omega) (by omega) (by omega)).trans ((hfq 57 (by omega)).trans (lk_ne (by omega) rfl))))), hgd, hm8, (hTq.mr.keep ((hf2 59 (by omega) (by omega) (by omega) (by omega) (by omega)).trans ((hfl 59 (by omega) (by omega) (by omega)).trans rfl))), hm2, (hH.keep ((hf2 61 (by omega) (by omega) (by omega) (by omega) (by omega)).trans ((hfl 61 (by omega) (by omega) (by omega)).trans ((hfq 61 (by omega)).trans (lk_ne (by omega) rfl))))), (hV.keep ((hf2 62 (by omega) (by omega) (by omega) (by omega) (by omega)).trans ((hfl 62 (by omega) (by omega) (by omega)).trans ((hfq 62 (by omega)).trans (lk_ne (by omega) rfl)))) ((hf2 63 (by omega) (by omega) (by omega) (by omega) (by omega)).trans ((hfl 63 (by omega) (by omega) (by omega)).trans ((hfq 63 (by omega)).trans (lk_ne (by omega) rfl))))), (hB.keep ((hf2 64 (by omega) (by omega) (by omega) (by omega) (by omega)).trans ((hfl 64 (by omega) (by omega) (by omega)).trans ((hfq 64 (by omega)).trans (lk_ne (by omega) rfl)))) ((hf2 65 (by omega) (by omega) (by omega) (by omega) (by omega)).trans ((hfl 65 (by omega) (by omega) (by omega)).trans ((hfq 65 (by omega)).trans (lk_ne (by omega) rfl))))), hms, (hWd.keep ((hf2 69 (by omega) (by omega) (by omega) (by omega) (by omega)).trans ((hfl 69 (by omega) (by omega) (by omega)).trans ((hfq 69 (by omega)).trans (lk_ne (by omega) rfl)))) ((hf2 70 (by omega) (by omega) (by omega) (by omega) (by omega)).trans ((hfl 70 (by omega) (by omega) (by omega)).trans ((hfq 70 (by omega)).trans (lk_ne (by omega) rfl)))) ((hf2 71 (by omega) (by omega) (by omega) (by omega) (by omega)).trans ((hfl 71 (by omega) (by omega) (by omega)).trans ((hfq 71 (by omega)).trans (lk_ne (by omega) rfl)))))⟩) _ 0 _ _ (Nat.lt_succ_self _) (Nat.zero_le _) (((hfl _ (by omega) (by omega) (by omega)).trans ((hfq _ (by omega)).trans (lk_ne (by omega) h58)))) (fun k hk => absurd hk (Nat.not_lt_zero _)) (fun _ _ => rfl)) ?_)
        rintro r c9 ⟨v9, hv9, hA1, hA2, hf9⟩
        by_cases hbW : (rp tm [0] j q).length ≤ 200
        · obtain ⟨rfl, hW9⟩ := hA1 hbW
          have e9 : fSubst j ((sl : Nat) : Int) (tm, x, hs, s0, s1, o, sd) = ((((rp tm [0] j q).length : Nat) : Int), (rp tm [0] j q, x, psh hs tm, s0, s1, o, sd)) := by unfold fSubst; rw [if_pos (by omega), if_pos (by omega), hs9, if_neg (by omega)]; rw [if_pos hbW]; rfl
          exact ⟨_, hv9, by rw [e9], by rw [e9]; exact hW9, (fun k n0 => (hf9 k n0).trans (((hfl k (by omega) (by omega) (by omega)).trans ((hfq k (by omega)).trans (lk_ne (by omega) rfl)))))⟩
        · obtain ⟨rfl, hW9⟩ := hA2 hbW
          have e9 : fSubst j ((sl : Nat) : Int) (tm, x, hs, s0, s1, o, sd) = (-4, (tm, x, hs, s0, s1, o, sd)) := by unfold fSubst; rw [if_pos (by omega), if_pos (by omega), hs9, if_neg (by omega)]; rw [if_neg hbW]
          exact ⟨_, hv9, by rw [e9], by rw [e9]; exact hW9, (fun k n0 => (hf9 k n0).trans (((hfl k (by omega) (by omega) (by omega)).trans ((hfq k (by omega)).trans (lk_ne (by omega) rfl)))))⟩
      · have hqz := hq.free (by omega)
        refine A_bipush (q := 43) X dX9_substitute_41 (by decide) rfl ?_
        have e9 : fSubst j ((sl : Nat) : Int) (tm, x, hs, s0, s1, o, sd) = (-3, (tm, x, hs, s0, s1, o, sd)) := by unfold fSubst; rw [if_pos (by omega), if_pos (by omega), hs9, if_pos hqz]
        exact A_ireturn X dX9_substitute_43 ⟨by rw [e9], by rw [e9]; exact ⟨hN, ⟨_, _, _, lk_eq, htw⟩, (hX.keep (lk_ne (by omega) rfl)), (hT.keep (lk_ne (by omega) rfl)), hgd, (hR8.keep (lk_ne (by omega) rfl)), (hR9.keep (lk_ne (by omega) rfl)), (hO.keep (lk_ne (by omega) rfl)), (hH.keep (lk_ne (by omega) rfl)), (hV.keep (lk_ne (by omega) rfl) (lk_ne (by omega) rfl)), (hB.keep (lk_ne (by omega) rfl) (lk_ne (by omega) rfl)), (hSc.keep (lk_ne (by omega) rfl) (lk_ne (by omega) rfl) (lk_ne (by omega) rfl)), (hWd.keep (lk_ne (by omega) rfl) (lk_ne (by omega) rfl) (lk_ne (by omega) rfl))⟩, (fun k n0 => (lk_ne (by omega) rfl))⟩
    · refine A_bipush (q := 31) X dX9_substitute_29 (by decide) rfl ?_
      have e9 : fSubst j ((sl : Nat) : Int) (tm, x, hs, s0, s1, o, sd) = (-2, (tm, x, hs, s0, s1, o, sd)) := by unfold fSubst; rw [if_pos (by omega), if_neg (by omega)]
      exact A_ireturn X dX9_substitute_31 ⟨by rw [e9], by rw [e9]; exact ⟨hN, ⟨_, _, _, lk_eq, htw⟩, (hX.keep (lk_ne (by omega) rfl)), (hT.keep (lk_ne (by omega) rfl)), hgd, (hR8.keep (lk_ne (by omega) rfl)), (hR9.keep (lk_ne (by omega) rfl)), (hO.keep (lk_ne (by omega) rfl)), (hH.keep (lk_ne (by omega) rfl)), (hV.keep (lk_ne (by omega) rfl) (lk_ne (by omega) rfl)), (hB.keep (lk_ne (by omega) rfl) (lk_ne (by omega) rfl)), (hSc.keep (lk_ne (by omega) rfl) (lk_ne (by omega) rfl) (lk_ne (by omega) rfl)), (hWd.keep (lk_ne (by omega) rfl) (lk_ne (by omega) rfl) (lk_ne (by omega) rfl))⟩, (fun k n0 => (lk_ne (by omega) rfl))⟩
  · refine A_iconst (q := 16) X dX9_substitute_15 rfl ?_
    have e9 : fSubst j p (tm, x, hs, s0, s1, o, sd) = (-1, (tm, x, hs, s0, s1, o, sd)) := by unfold fSubst; rw [if_neg (by omega)]
    exact A_ireturn X dX9_substitute_16 ⟨by rw [e9], by rw [e9]; exact ⟨hN, ⟨_, _, _, lk_eq, htw⟩, (hX.keep (lk_ne (by omega) rfl)), (hT.keep (lk_ne (by omega) rfl)), hgd, (hR8.keep (lk_ne (by omega) rfl)), (hR9.keep (lk_ne (by omega) rfl)), (hO.keep (lk_ne (by omega) rfl)), (hH.keep (lk_ne (by omega) rfl)), (hV.keep (lk_ne (by omega) rfl) (lk_ne (by omega) rfl)), (hB.keep (lk_ne (by omega) rfl) (lk_ne (by omega) rfl)), (hSc.keep (lk_ne (by omega) rfl) (lk_ne (by omega) rfl) (lk_ne (by omega) rfl)), (hWd.keep (lk_ne (by omega) rfl) (lk_ne (by omega) rfl) (lk_ne (by omega) rfl))⟩, (fun k n0 => (lk_ne (by omega) rfl))⟩
