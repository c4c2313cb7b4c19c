/-! THE MODEL's calls: random reductions -/
set_option maxRecDepth 100000 in
set_option maxHeartbeats 4000000 in
theorem lp_X9_randomReduction {l : Launch} {G : Gm} {K : Cx} {c0 : HP} {nq : Nat} {A : Int} {B : Int64} {th ts rmb obn tw pk : Int} (X : Fx l G K cX9_randomReduction 6 RX9 ((some .int)) (rmR 3 75)) (hG : injG G) (hN : G.2.1 = 72) (hn : 1 ≤ nq ∧ nq ≤ 30) : ∀ (n : Nat) (i : Nat) (a : Int) (sd : Int64) (t : List Int) (c : HP), nq - i < n → i ≤ nq → c 55 = ob9 G th ts rmb obn sd tw pk → Mt G c 58 t → Gd t → Mr G c 60 → Sc G c → a + (rdR (nq - i) sd t).1 = A → (rdR (nq - i) sd t).2 = B → (∀ k, k ≠ 55 → k ≠ 58 → k ≠ 60 → k ≠ 66 → k ≠ 67 → k ≠ 68 → c k = c0 k) → AW G K (Qi (fun v c' => v = zI A ∧ c' 55 = ob9 G th ts rmb obn B tw pk ∧ Mr G c' 58 ∧ Mr G c' 60 ∧ Sc G c' ∧ (∀ k, k ≠ 55 → k ≠ 58 → k ≠ 60 → k ≠ 66 → k ≠ 67 → k ≠ 68 → c' k = c0 k))) 35 (mkL [some (.ref (G.1 55)), some (.int (zI ((nq : Nat) : Int))), some (.int (zI a)), some (.int (zI ((i : Nat) : Int))), none, none]) [] c := by
  intro n
  induction n with
  | zero => intro i a sd t c hmz; exact absurd hmz (Nat.not_lt_zero _)
  | succ n ih =>
    intro i a sd t c hmz hi h55 hT8 hg8 hO hSc hA hB hf0
    obtain ⟨-, hl8, F8, h58, hS8, -⟩ := (id hT8 : Mt G c 58 t)
    refine A_iload_n (q := 36) X dX9_randomReduction_35 rfl rfl ?_
    refine A_iload_n (q := 37) X dX9_randomReduction_36 rfl rfl ?_
    refine A_icmp_ge (q := 40) (t := 131) X dX9_randomReduction_37 (by omega) (by omega) rfl rfl (fun hb37 => ?_) (fun hb37 => ?_)
    · refine A_iload_n (q := 132) X dX9_randomReduction_131 rfl rfl ?_
      have e0 : nq - i = 0 := by omega
      rw [e0] at hA hB
      exact A_ireturn X dX9_randomReduction_132 ⟨by rw [← hA]; exact congrArg zI (Int.add_zero a).symm, by rw [← hB]; exact h55, hT8.mr, hO, hSc, hf0⟩
    · obtain ⟨r, hr⟩ : ∃ r, nq - i = r + 1 := ⟨nq - i - 1, by omega⟩
      rw [hr] at hA hB
      have hcn := cntP_le (rx t) t.length
      refine A_aload_n (q := 41) X dX9_randomReduction_40 rfl rfl ?_
      refine A_aload_n (q := 42) X dX9_randomReduction_41 rfl rfl ?_
      refine A_getf (q := 45) X fX9_208 dX9_randomReduction_42 (by omega) h55 rfl rfl ?_
      refine A_ldc2 (q := 48) X dX9_randomReduction_45 nX9_214 rfl ?_
      refine A_lmul (q := 49) X dX9_randomReduction_48 rfl ?_
      refine A_ldc2 (q := 52) X dX9_randomReduction_49 nX9_216 rfl ?_
      refine A_ladd (q := 53) X dX9_randomReduction_52 rfl ?_
      refine A_putf (q := 56) X pX9_208 dX9_randomReduction_53 (by omega) h55 (Nat.le_of_ble_eq_true rfl) rfl rfl rfl ?_
      refine A_aload_n (q := 57) X dX9_randomReduction_56 rfl rfl ?_
      refine A_getf (q := 60) X fX9_208 dX9_randomReduction_57 (by omega) lk_eq rfl rfl ?_
      refine A_bipush (q := 62) X dX9_randomReduction_60 (by decide) rfl ?_
      refine A_lushr (q := 63) X dX9_randomReduction_62 rfl ?_
      refine A_l2i (q := 64) X dX9_randomReduction_63 rfl ?_
      show AW G K _ _ _ (.int (rv (rnd sd)) :: _) _
      rw [rv_eq]
      have hrv := rvN_lt (rnd sd)
      refine A_istore (q := 66) X dX9_randomReduction_64 (by decide) (okP_s rfl rfl) rfl ?_
      refine A_aload_n (q := 67) X dX9_randomReduction_66 rfl rfl ?_
      refine A_getf (q := 70) X fX9_16 dX9_randomReduction_67 (by omega) lk_eq rfl rfl ?_
      refine A_S1i (q := 73) X (c_X9_redexes hG (hT8.keep ((lk_ne (by omega) rfl))) hg8) mX9_redexes kX9_108 dX9_randomReduction_70 (by decide) (Nat.le_of_ble_eq_true rfl) rfl (fun vq_3 cq_2 hq_1 => ?_)
      obtain ⟨rfl, hq_1⟩ := hq_1
      obtain rfl := hq_1.symm
      refine A_istore (q := 75) X dX9_randomReduction_73 (by decide) (okP_s rfl rfl) rfl ?_
      refine A_iload (q := 77) X dX9_randomReduction_75 rfl rfl ?_
      refine A_if_le (q := 80) (t := 114) X dX9_randomReduction_77 (by omega) rfl rfl (fun hb77 => ?_) (fun hb77 => ?_)
      · refine A_iload_n (q := 115) X dX9_randomReduction_114 rfl rfl ?_
        refine A_aload_n (q := 116) X dX9_randomReduction_115 rfl rfl ?_
        refine A_getf (q := 119) X fX9_16 dX9_randomReduction_116 (by omega) lk_eq rfl rfl ?_
        refine A_sipush (q := 122) X dX9_randomReduction_119 (by decide) rfl ?_
        refine A_iald (q := 123) (h := 58) 200 X dX9_randomReduction_122 (by omega) (lk_ne (by omega) h58) (by omega) (by omega) (by decide) rfl ?_
        rw [hS8]
        refine A_iadd (q := 124) X dX9_randomReduction_123 rfl ?_
        refine A_istore_n (q := 125) X dX9_randomReduction_124 (by decide) (okP_s rfl rfl) rfl ?_
        refine A_iinc (q := 128) X dX9_randomReduction_125 rfl (by decide) (okP_s rfl rfl) rfl ?_
        refine A_goto (q := 35) X dX9_randomReduction_128 rfl ?_
        have er : rdT (rnd sd) t = t := by unfold rdT; rw [if_neg (by omega)]
        have hA2 : a + ((((rdT (rnd sd) t).length : Nat) : Int) + (rdR r (rnd sd) (rdT (rnd sd) t)).1) = A := hA
        have hB2 : (rdR r (rnd sd) (rdT (rnd sd) t)).2 = B := hB
        rw [er] at hA2 hB2
        exact AW.loc (sS rfl (sS rfl (sZ rfl rfl (sZ rfl (by omega) (sN (sN sE)))))) (ih (i + 1) (a + ((t.length : Nat) : Int)) (rnd sd) t _ (by omega) (by omega) (lk_eq) (hT8.keep ((lk_ne (by omega) rfl))) hg8 (hO.keep ((lk_ne (by omega) rfl))) (hSc.keep ((lk_ne (by omega) rfl)) ((lk_ne (by omega) rfl)) ((lk_ne (by omega) rfl))) (by rw [show nq - (i + 1) = r by omega, Int.add_assoc]; exact hA2) (by rw [show nq - (i + 1) = r by omega]; exact hB2) (fun k n0 n1 n2 n3 n4 n5 => (lk_ne (by omega) (hf0 k n0 n1 n2 n3 n4 n5))))
      · refine A_aload_n (q := 81) X dX9_randomReduction_80 rfl rfl ?_
        refine A_aload_n (q := 82) X dX9_randomReduction_81 rfl rfl ?_
        refine A_getf (q := 85) X fX9_16 dX9_randomReduction_82 (by omega) lk_eq rfl rfl ?_
        refine A_aload_n (q := 86) X dX9_randomReduction_85 rfl rfl ?_
        refine A_getf (q := 89) X fX9_16 dX9_randomReduction_86 (by omega) lk_eq rfl rfl ?_
        refine A_iload (q := 91) X dX9_randomReduction_89 rfl rfl ?_
        refine A_iload (q := 93) X dX9_randomReduction_91 rfl rfl ?_
        refine A_irem (q := 94) X dX9_randomReduction_93 (by omega) (by omega) (by omega) (by omega) rfl ?_
        have hmod := Nat.mod_lt (rvN (rnd sd)) (show 0 < cntP (rx t) t.length by omega)
        rw [show zI ((((rvN (rnd sd)) : Nat) : Int) % (((cntP (rx t) t.length) : Nat) : Int)) = zI ((rvN (rnd sd) % cntP (rx t) t.length : Nat) : Int) from rfl]
        refine A_S2i (q := 97) X (c_X9_redexNumber hG (hT8.keep ((lk_ne (by omega) rfl))) hg8 hmod) mX9_redexNumber kX9_218 dX9_randomReduction_94 (by decide) (Nat.le_of_ble_eq_true rfl) rfl (fun vq_6 cq_5 hq_4 => ?_)
        obtain ⟨⟨kk, hk1, rfl, hk2, hk3⟩, hq_4⟩ := hq_4
        obtain rfl := hq_4.symm
        refine A_V2i (q := 100) X (c_X9_contract hG hN (lk_eq) (by decide) (hT8.keep ((lk_ne (by omega) rfl))) hg8 hk2 (hO.keep ((lk_ne (by omega) rfl))) (hSc.keep ((lk_ne (by omega) rfl)) ((lk_ne (by omega) rfl)) ((lk_ne (by omega) rfl)))) mX9_contract kX9_97 dX9_randomReduction_97 (by omega) lk_eq rfl (by decide) (Nat.le_of_ble_eq_true rfl) rfl (fun vq_9 cq_8 hq_7 => ?_)
        obtain ⟨rfl, hPo, hSc2, hfc⟩ := hq_7
        refine A_beq (q := 103) (t := 114) X dX9_randomReduction_100 rfl rfl (fun hb100 => ?_) (fun hb100 => ?_)
        · refine A_iload_n (q := 115) X dX9_randomReduction_114 rfl rfl ?_
          refine A_aload_n (q := 116) X dX9_randomReduction_115 rfl rfl ?_
          refine A_getf (q := 119) X fX9_16 dX9_randomReduction_116 (by omega) ((hfc _ (by omega) (by omega) (by omega) (by omega)).trans lk_eq) rfl rfl ?_
          refine A_sipush (q := 122) X dX9_randomReduction_119 (by decide) rfl ?_
          refine A_iald (q := 123) (h := 58) 200 X dX9_randomReduction_122 (by omega) ((hfc _ (by omega) (by omega) (by omega) (by omega)).trans (lk_ne (by omega) h58)) (by omega) (by omega) (by decide) rfl ?_
          rw [hS8]
          refine A_iadd (q := 124) X dX9_randomReduction_123 rfl ?_
          refine A_istore_n (q := 125) X dX9_randomReduction_124 (by decide) (okP_s rfl rfl) rfl ?_
          refine A_iinc (q := 128) X dX9_randomReduction_125 rfl (by decide) (okP_s rfl rfl) rfl ?_
          refine A_goto (q := 35) X dX9_randomReduction_128 rfl ?_
          have er : rdT (rnd sd) t = t := by unfold rdT; rw [if_pos (by omega), nthF_eq hk2 hk3 hk1, ctO_rx hk2, if_neg hb100]; rfl
          have hA2 : a + ((((rdT (rnd sd) t).length : Nat) : Int) + (rdR r (rnd sd) (rdT (rnd sd) t)).1) = A := hA
          have hB2 : (rdR r (rnd sd) (rdT (rnd sd) t)).2 = B := hB
          rw [er] at hA2 hB2
          exact AW.loc (sS rfl (sS rfl (sZ rfl rfl (sZ rfl (by omega) (sN (sN sE)))))) (ih (i + 1) (a + ((t.length : Nat) : Int)) (rnd sd) t _ (by omega) (by omega) (((hfc _ (by omega) (by omega) (by omega) (by omega)).trans lk_eq)) (hT8.keep (((hfc 58 (by omega) (by omega) (by omega) (by omega)).trans (lk_ne (by omega) rfl)))) hg8 (hPo.2.choose_spec.mr.keep (rfl)) (hSc2.keep (rfl) (rfl) (rfl)) (by rw [show nq - (i + 1) = r by omega, Int.add_assoc]; exact hA2) (by rw [show nq - (i + 1) = r by omega]; exact hB2) (fun k n0 n1 n2 n3 n4 n5 => ((hfc k (by omega) (by omega) (by omega) (by omega)).trans (lk_ne (by omega) (hf0 k n0 n1 n2 n3 n4 n5)))))
        · refine A_aload_n (q := 104) X dX9_randomReduction_103 rfl rfl ?_
          refine A_getf (q := 107) X fX9_22 dX9_randomReduction_104 (by omega) ((hfc _ (by omega) (by omega) (by omega) (by omega)).trans lk_eq) rfl rfl ?_
          refine A_aload_n (q := 108) X dX9_randomReduction_107 rfl rfl ?_
          refine A_getf (q := 111) X fX9_16 dX9_randomReduction_108 (by omega) ((hfc _ (by omega) (by omega) (by omega) (by omega)).trans lk_eq) rfl rfl ?_
          refine A_S2v (q := 114) X (c_assign hG (hPo.1 hb100) (hT8.keep (((hfc 58 (by omega) (by omega) (by omega) (by omega)).trans (lk_ne (by omega) rfl)))).mr (by decide)) mX9_assign kX9_100 dX9_randomReduction_111 (by decide) (Nat.le_of_ble_eq_true rfl) rfl (fun cq_11 hq_10 => ?_)
          obtain ⟨hT9, hf9⟩ := hq_10
          obtain ⟨-, -, F9, h589, hS9, -⟩ := (id hT9 : Mt G _ 58 _)
          refine A_iload_n (q := 115) X dX9_randomReduction_114 rfl rfl ?_
          refine A_aload_n (q := 116) X dX9_randomReduction_115 rfl rfl ?_
          refine A_getf (q := 119) X fX9_16 dX9_randomReduction_116 (by omega) ((hf9 _ (by omega)).trans ((hfc _ (by omega) (by omega) (by omega) (by omega)).trans lk_eq)) rfl rfl ?_
          refine A_sipush (q := 122) X dX9_randomReduction_119 (by decide) rfl ?_
          refine A_iald (q := 123) (h := 58) 200 X dX9_randomReduction_122 (by omega) h589 (by omega) (by omega) (by decide) rfl ?_
          rw [hS9]
          refine A_iadd (q := 124) X dX9_randomReduction_123 rfl ?_
          refine A_istore_n (q := 125) X dX9_randomReduction_124 (by decide) (okP_s rfl rfl) rfl ?_
          refine A_iinc (q := 128) X dX9_randomReduction_125 rfl (by decide) (okP_s rfl rfl) rfl ?_
          refine A_goto (q := 35) X dX9_randomReduction_128 rfl ?_
          have er : rdT (rnd sd) t = (ctr t kk) := by unfold rdT; rw [if_pos (by omega), nthF_eq hk2 hk3 hk1, ctO_rx hk2, if_pos hb100]; rfl
          have hA2 : a + ((((rdT (rnd sd) t).length : Nat) : Int) + (rdR r (rnd sd) (rdT (rnd sd) t)).1) = A := hA
          have hB2 : (rdR r (rnd sd) (rdT (rnd sd) t)).2 = B := hB
          rw [er] at hA2 hB2
          exact AW.loc (sS rfl (sS rfl (sZ rfl rfl (sZ rfl (by omega) (sN (sN sE)))))) (ih (i + 1) (a + (((ctr t kk).length : Nat) : Int)) (rnd sd) (ctr t kk) _ (by omega) (by omega) (((hf9 _ (by omega)).trans ((hfc _ (by omega) (by omega) (by omega) (by omega)).trans lk_eq))) hT9 (Gd_ctr hg8 hk2 hb100) (hPo.2.choose_spec.mr.keep (((hf9 60 (by omega)).trans rfl))) (hSc2.keep (((hf9 66 (by omega)).trans rfl)) (((hf9 67 (by omega)).trans rfl)) (((hf9 68 (by omega)).trans rfl))) (by rw [show nq - (i + 1) = r by omega, Int.add_assoc]; exact hA2) (by rw [show nq - (i + 1) = r by omega]; exact hB2) (fun k n0 n1 n2 n3 n4 n5 => ((hf9 k (by omega)).trans ((hfc k (by omega) (by omega) (by omega) (by omega)).trans (lk_ne (by omega) (hf0 k n0 n1 n2 n3 n4 n5))))))
set_option maxRecDepth 100000 in
set_option maxHeartbeats 4000000 in
theorem c_X9_randomReduction {l : Launch} {G : Gm} {c : HP} {tm x : List Int} {hs : List (List Int)} {s0 s1 : List Int} {o : List (Int × Int)} {sd : Int64} {n : Int} (hG : injG G) (hnr : rg n) (hW : WM G c (tm, x, hs, s0, s1, o, sd)) : AMet l G yX9_randomReduction cX9_randomReduction 6 ((some .int)) (rmR 3 75) [.ref (G.1 55), .int (zI n)] c (Qi (fun v c' => v = zI (fRandom n (tm, x, hs, s0, s1, o, sd)).1 ∧ WM G c' (fRandom n (tm, x, hs, s0, s1, o, sd)).2 ∧ (∀ k, k < 55 → c' k = c k))) := by
  refine AMet.of (vl := [some (.ref (G.1 55)), some (.int (zI n))]) (by decide) hG (Nat.le_of_ble_eq_true rfl) rfl ?_
  intro K X
  have X : Fx l G K cX9_randomReduction 6 RX9 ((some .int)) (rmR 3 75) := X
  obtain ⟨hN, ⟨th, tw, pk, h55, htw⟩, hX, hT, hgd, hR8, hR9, hO, hH, hV, hB, hSc, hWd⟩ := hW
  dsimp only at h55 hX hT hgd hH hV hB
  have hl0 := hT.len
  have hxl := hX.1
  have hhl := hH.1
  have hol := hB.1
  refine A_aload_n (q := 1) X dX9_randomReduction_0 rfl rfl ?_
  refine A_iconst (q := 2) X dX9_randomReduction_1 rfl ?_
  refine A_putf (q := 5) X pX9_59 dX9_randomReduction_2 (by omega) h55 (Nat.le_of_ble_eq_true rfl) rfl rfl rfl ?_
  refine A_iload_n (q := 6) X dX9_randomReduction_5 rfl rfl ?_
  refine A_i2l (q := 7) X dX9_randomReduction_6 rfl ?_
  refine A_lconst (q := 8) (v := 1) X dX9_randomReduction_7 rfl rfl ?_
  refine A_ldc2 (q := 11) X dX9_randomReduction_8 nX9_212 rfl ?_
  refine A_S3i (q := 14) X (c_inZ (a := n) (b := 1) (d := 30) hG rfl (by decide) (by decide) (by omega) (by omega) (by omega)) mX9_in kX9_114 dX9_randomReduction_11 (by decide) (Nat.le_of_ble_eq_true rfl) rfl (fun vq_3 cq_2 hq_1 => ?_)
  obtain ⟨rfl, hq_1⟩ := hq_1
  obtain rfl := hq_1.symm
  refine A_bne (q := 17) (t := 20) X dX9_randomReduction_14 rfl rfl (fun hb14 => ?_) (fun hb14 => ?_)
  · obtain ⟨nn, rfl⟩ : ∃ nn : Nat, n = ((nn : Nat) : Int) := ⟨n.toNat, by omega⟩
    refine A_aload_n (q := 21) X dX9_randomReduction_20 rfl rfl ?_
    refine A_getf (q := 24) X fX9_13 dX9_randomReduction_21 (by omega) lk_eq rfl rfl ?_
    refine A_aload_n (q := 25) X dX9_randomReduction_24 rfl rfl ?_
    refine A_getf (q := 28) X fX9_16 dX9_randomReduction_25 (by omega) lk_eq rfl rfl ?_
    refine A_S2v (q := 31) X (c_assign hG (hT.keep (lk_ne (by omega) rfl)) (hR8.keep (lk_ne (by omega) rfl)) (by decide)) mX9_assign kX9_100 dX9_randomReduction_28 (by decide) (Nat.le_of_ble_eq_true rfl) rfl (fun cq_5 hq_4 => ?_)
    obtain ⟨hW8, hfw⟩ := hq_4
    refine A_iconst (q := 32) X dX9_randomReduction_31 rfl ?_
    refine A_istore_n (q := 33) X dX9_randomReduction_32 (by decide) (okP_s rfl rfl) rfl ?_
    refine A_iconst (q := 34) X dX9_randomReduction_33 rfl ?_
    refine A_istore_n (q := 35) X dX9_randomReduction_34 (by decide) (okP_s rfl rfl) rfl ?_
    have e9 : fRandom ((nn : Nat) : Int) (tm, x, hs, s0, s1, o, sd) = ((rdR nn sd tm).1, (tm, x, hs, s0, s1, o, (rdR nn sd tm).2)) := by unfold fRandom sdS; rw [if_pos (by omega)]; rfl
    refine AW.loc (sS rfl (sS rfl (sZ rfl rfl (sZ rfl (by omega) (sN (sN sE)))))) (AW.mono (lp_X9_randomReduction (nq := nn) X hG hN (by omega) _ 0 0 sd tm _ (Nat.lt_succ_self _) (Nat.zero_le _) (((hfw _ (by omega)).trans lk_eq)) hW8 hgd (hO.keep ((hfw 60 (by omega)).trans (lk_ne (by omega) rfl))) (hSc.keep ((hfw 66 (by omega)).trans (lk_ne (by omega) rfl)) ((hfw 67 (by omega)).trans (lk_ne (by omega) rfl)) ((hfw 68 (by omega)).trans (lk_ne (by omega) rfl))) rfl rfl (fun _ _ _ _ _ _ _ => rfl)) ?_)
    rintro r c9 ⟨v9, hv9, rfl, h559, hR89, hO9, hSc9, hf9⟩
    exact ⟨_, hv9, by rw [e9]; exact congrArg zI (Int.zero_add _), by rw [e9]; exact ⟨hN, ⟨_, _, _, h559, htw⟩, (hX.keep ((hf9 56 (by omega) (by omega) (by omega) (by omega) (by omega) (by omega)).trans ((hfw 56 (by omega)).trans (lk_ne (by omega) rfl)))), (hT.keep ((hf9 57 (by omega) (by omega) (by omega) (by omega) (by omega) (by omega)).trans ((hfw 57 (by omega)).trans (lk_ne (by omega) rfl)))), hgd, hR89, (hR9.keep ((hf9 59 (by omega) (by omega) (by omega) (by omega) (by omega) (by omega)).trans ((hfw 59 (by omega)).trans (lk_ne (by omega) rfl)))), hO9, (hH.keep ((hf9 61 (by omega) (by omega) (by omega) (by omega) (by omega) (by omega)).trans ((hfw 61 (by omega)).trans (lk_ne (by omega) rfl)))), (hV.keep ((hf9 62 (by omega) (by omega) (by omega) (by omega) (by omega) (by omega)).trans ((hfw 62 (by omega)).trans (lk_ne (by omega) rfl))) ((hf9 63 (by omega) (by omega) (by omega) (by omega) (by omega) (by omega)).trans ((hfw 63 (by omega)).trans (lk_ne (by omega) rfl)))), (hB.keep ((hf9 64 (by omega) (by omega) (by omega) (by omega) (by omega) (by omega)).trans ((hfw 64 (by omega)).trans (lk_ne (by omega) rfl))) ((hf9 65 (by omega) (by omega) (by omega) (by omega) (by omega) (by omega)).trans ((hfw 65 (by omega)).trans (lk_ne (by omega) rfl)))), hSc9, (hWd.keep ((hf9 69 (by omega) (by omega) (by omega) (by omega) (by omega) (by omega)).trans ((hfw 69 (by omega)).trans (lk_ne (by omega) rfl))) ((hf9 70 (by omega) (by omega) (by omega) (by omega) (by omega) (by omega)).trans ((hfw 70 (by omega)).trans (lk_ne (by omega) rfl))) ((hf9 71 (by omega) (by omega) (by omega) (by omega) (by omega) (by omega)).trans ((hfw 71 (by omega)).trans (lk_ne (by omega) rfl))))⟩, (fun k n0 => ((hf9 k (by omega) (by omega) (by omega) (by omega) (by omega) (by omega)).trans ((hfw k (by omega)).trans (lk_ne (by omega) rfl))))⟩
  · refine A_bipush (q := 19) X dX9_randomReduction_17 (by decide) rfl ?_
    have e9 : fRandom n (tm, x, hs, s0, s1, o, sd) = (-2, (tm, x, hs, s0, s1, o, sd)) := by unfold fRandom; rw [if_neg (by omega)]
    exact A_ireturn X dX9_randomReduction_19 ⟨by rw [e9], by rw [e9]; exact ⟨hN, ⟨_, _, _, lk_eq, htw⟩, (hX.keep (lk_ne (by omega) rfl)), (hT.keep (lk_ne (by omega) rfl)), hgd, (hR8.keep (lk_ne (by omega) rfl)), (hR9.keep (lk_ne (by omega) rfl)), (hO.keep (lk_ne (by omega) rfl)), (hH.keep (lk_ne (by omega) rfl)), (hV.keep (lk_ne (by omega) rfl) (lk_ne (by omega) rfl)), (hB.keep (lk_ne (by omega) rfl) (lk_ne (by omega) rfl)), (hSc.keep (lk_ne (by omega) rfl) (lk_ne (by omega) rfl) (lk_ne (by omega) rfl)), (hWd.keep (lk_ne (by omega) rfl) (lk_ne (by omega) rfl) (lk_ne (by omega) rfl))⟩, (fun k n0 => (lk_ne (by omega) rfl))⟩
