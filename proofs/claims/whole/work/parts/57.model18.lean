/-! THE MODEL's calls: random reductions -/
set_option maxRecDepth 100000 in
set_option maxHeartbeats 4000000 in
theorem lp_X9_randomReduction {l : Launch} {G : Gm} {K : Cx} {c0 : HP} {nq : Nat} {A : Int} {B : Int64} {th ts rmb obn tw pk : Int} (X : Fx l G K cX9_randomReduction 6 RX9 ((some .int)) (rmR 3 75)) (hG : injG G) (hN : G.2.1 = 72) (hn : 1 ≤ nq ∧ nq ≤ 30) : ∀ (n : Nat) (i : Nat) (a : Int) (sd : Int64) (t : List Int) (c : HP), nq - i < n → i ≤ nq → c 55 = ob9 G th ts rmb obn sd tw pk → Mt G c 58 t → Gd t → Mr G c 60 → Sc G c → a + (rdR (nq - i) sd t).1 = A → (rdR (nq - i) sd t).2 = B → (∀ k, k ≠ 55 → k ≠ 58 → k ≠ 60 → k ≠ 66 → k ≠ 67 → k ≠ 68 → c k = c0 k) → AW G K (Qi (fun v c' => v = zI A ∧ c' 55 = ob9 G th ts rmb obn B tw pk ∧ Mr G c' 58 ∧ Mr G c' 60 ∧ Sc G c' ∧ (∀ k, k ≠ 55 → k ≠ 58 → k ≠ 60 → k ≠ 66 → k ≠ 67 → k ≠ 68 → c' k = c0 k))) 35 (mkL [some (.ref (G.1 55)), some (.int (zI ((nq : Nat) : Int))), some (.int (zI a)), some (.int (zI ((i : Nat) : Int))), none, none]) [] c := by
  intro n
  induction n with
  | zero => intro i a sd t c hmz; exact absurd hmz (Nat.not_lt_zero _)
  | succ n ih =>
    intro i a sd t c hmz hi h55 hT8 hg8 hO hSc hA hB hf0
    obtain ⟨-, hl8, F8, h58, hS8, -⟩ := (id hT8 : Mt G c 58 t)
    refine A_iload_n (q := 36) X dX9_randomReduction_35 rfl rfl ?_
    refine A_iload_n (q := 37) X dX9_randomReduction_36 rfl rfl ?_
    refine A_icmp_ge (q := 40) (t := 131) X dX9_randomReduction_37 (by omega) (by omega) rfl rfl (fun hb37 => ?_) (fun hb37 => ?_)
    · refine A_iload_n (q := 132) X dX9_randomReduction_131 rfl rfl ?_
      have e0 : nq - i = 0 := by omega
      rw [e0] at hA hB
      exact A_ireturn X dX9_randomReduction_132 ⟨by rw [← hA]; exact congrArg zI (Int.add_zero a).symm, by rw [← hB]; exact h55, hT8.mr, hO, hSc, hf0⟩
    · obtain ⟨r, hr⟩ : ∃ r, nq - i = r + 1 := ⟨nq - i - 1, by omega⟩
      rw [hr] at hA hB
      have hcn := cntP_le (rx t) t.length
      refine A_aload_n (q := 41) X dX9_randomReduction_40 rfl rfl ?_
      refine A_aload_n (q := 42) X dX9_randomReduction_41 rfl rfl ?_
      refine A_getf (q := 45) X fX9_208 dX9_randomReduction_42 (by omega) h55 rfl rfl ?_
      refine A_ldc2 (q := 48) X dX9_randomReduction_45 nX9_214 rfl ?_
      refine A_lmul (q := 49) X dX9_randomReduction_48 rfl ?_
      refine A_ldc2 (q := 52) X dX9_randomReduction_49 nX9_216 rfl ?_
      refine A_ladd (q := 53) X dX9_randomReduction_52 rfl ?_
      refine A_putf (q := 56) X pX9_208 dX9_randomReduction_53 (by omega) h55 (Nat.le_of_ble_eq_true rfl) rfl rfl rfl ?_
      refine A_aload_n (q := 57) X dX9_randomReduction_56 rfl rfl ?_
      refine A_getf (q := 60) X fX9_208 dX9_randomReduction_57 (by omega) lk_eq rfl rfl ?_
      refine A_bipush (q := 62) X dX9_randomReduction_60 (by decide) rfl ?_
      refine A_lushr (q := 63) X dX9_randomReduction_62 rfl ?_
      refine A_l2i (q := 64) X dX9_randomReduction_63 rfl ?_
      show AW G K _ _ _ (.int (rv (rnd sd)) :: _) _
      rw [rv_eq]
      have hrv := rvN_lt (rnd sd)
      refine A_istore (q := 66) X dX9_randomReduction_64 (by decide) (okP_s rfl rfl) rfl ?_
      refine A_aload_n (q := 67) X dX9_randomReduction_66 rfl rfl ?_
      refine A_getf (q := 70) X fX9_16 dX9_randomReduction_67 (by omega) lk_eq rfl rfl ?_
      refine A_S1i (q := 73) X (c_X9_redexes hG (hT8.keep ((lk_ne (by omega) rfl))) hg8) mX9_redexes kX9_108 dX9_randomReduction_70 (by decide) (Nat.le_of_ble_eq_true rfl) rfl (fun vq_3 cq_2 hq_1 => ?_)
      obtain ⟨rfl, hq_1⟩ := hq_1
      obtain rfl := hq_1.symm
      refine A_istore (q := 75) X dX9_randomReduction_73 (by decide) (okP_s rfl rfl) rfl ?_
      refine A_iload (q := 77) X dX9_randomReduction_75 rfl rfl ?_
      refine A_if_le (q := 80) (t := 114) X dX9_randomReduction_77 (by omega) rfl rfl (fun hb77 => ?_) (fun hb77 => ?_)
      · refine A_iload_n (q := 115) X dX9_randomReduction_114 rfl rfl ?_
        refine A_aload_n (q := 116) X dX9_randomReduction_115 rfl rfl ?_
        refine A_getf (q := 119) X fX9_16 dX9_randomReduction_116 (by omega) lk_eq rfl rfl ?_
        refine A_sipush (q := 122) X dX9_randomReduction_119 (by decide) rfl ?_
        refine A_iald (q := 123) (h := 58) 200 X dX9_randomReduction_122 (by omega) (lk_ne (by omega) h58) (by omega) (by omega) (by decide) rfl ?_
        rw [hS8]
        refine A_iadd (q := 124) X dX9_randomReduction_123 rfl ?_
        refine A_istore_n (q := 125) X dX9_randomReduction_124 (by decide) (okP_s rfl rfl) rfl ?_
        refine A_iinc (q := 128) X dX9_randomReduction_125 rfl (by decide) (okP_s rfl rfl) rfl ?_
        refine A_goto (q := 35) X dX9_randomReduction_128 rfl ?_
        have er : rdT (rnd sd) t = t := by unfold rdT; rw [if_neg (by omega)]
        have hA2 : a + (((t.length : Nat) : Int) + (rdR r (rnd sd) t).1) = A := by rw [← hA, ← er]; rfl
        have hB2 : (rdR r (rnd sd) t).2 = B := by rw [← hB, ← er]; rfl
        exact AW.loc (sS rfl (sS rfl (sZ rfl rfl (sZ rfl (by omega) (sN (sN sE)))))) (ih (i + 1) (a + ((t.length : Nat) : Int)) (rnd sd) t _ (by omega) (by omega) (lk_eq) (hT8.keep ((lk_ne (by omega) rfl))) hg8 (hO.keep ((lk_ne (by omega) rfl))) (hSc.keep ((lk_ne (by omega) rfl)) ((lk_ne (by omega) rfl)) ((lk_ne (by omega) rfl))) (by rw [show nq - (i + 1) = r by omega, Int.add_assoc]; exact hA2) (by rw [show nq - (i + 1) = r by omega]; exact hB2) (fun k n0 n1 n2 n3 n4 n5 => (lk_ne (by omega) (hf0 k n0 n1 n2 n3 n4 n5))))
      · refine A_aload_n (q := 81) X dX9_randomReduction_80 rfl rfl ?_
        refine A_aload_n (q := 82) X dX9_randomReduction_81 rfl rfl ?_
        refine A_getf (q := 85) X fX9_16 dX9_randomReduction_82 (by omega) lk_eq rfl rfl ?_
        refine A_aload_n (q := 86) X dX9_randomReduction_85 rfl rfl ?_
        refine A_getf (q := 89) X fX9_16 dX9_randomReduction_86 (by omega) lk_eq rfl rfl ?_
        refine A_iload (q := 91) X dX9_randomReduction_89 rfl rfl ?_
        refine A_iload (q := 93) X dX9_randomReduction_91 rfl rfl ?_
        refine A_irem (q := 94) X dX9_randomReduction_93 (by omega) (by omega) (by omega) (by omega) rfl ?_
        have hmod := Nat.mod_lt (rvN (rnd sd)) (show 0 < cntP (rx t) t.length by omega)
        rw [show zI ((((rvN (rnd sd)) : Nat) : Int) % (((cntP (rx t) t.length) : Nat) : Int)) = zI ((rvN (rnd sd) % cntP (rx t) t.length : Nat) : Int) from rfl]
        refine A_S2i (q := 97) X (c_X9_redexNumber hG (hT8.keep ((lk_ne (by omega) rfl))) hg8 hmod) mX9_redexNumber kX9_218 dX9_randomReduction_94 (by decide) (Nat.le_of_ble_eq_true rfl) rfl (fun vq_6 cq_5 hq_4 => ?_)
        obtain ⟨⟨kk, hk1, rfl, hk2, hk3⟩, hq_4⟩ := hq_4
        obtain rfl := hq_4.symm
        refine A_V2i (q := 100) X (c_X9_contract hG hN (lk_eq) (by decide) (hT8.keep ((lk_ne (by omega) rfl))) hg8 hk2 (hO.keep ((lk_ne (by omega) rfl))) (hSc.keep ((lk_ne (by omega) rfl)) ((lk_ne (by omega) rfl)) ((lk_ne (by omega) rfl)))) mX9_contract kX9_97 dX9_randomReduction_97 (by omega) lk_eq rfl (by decide) (Nat.le_of_ble_eq_true rfl) rfl (fun vq_9 cq_8 hq_7 => ?_)
        obtain ⟨rfl, hPo, hSc2, hfc⟩ := hq_7
        refine A_beq (q := 103) (t := 114) X dX9_randomReduction_100 rfl rfl (fun hb100 => ?_) (fun hb100 => ?_)
        · refine A_iload_n (q := 115) X dX9_randomReduction_114 rfl rfl ?_
          refine A_aload_n (q := 116) X dX9_randomReduction_115 rfl rfl ?_
          refine A_getf (q := 119) X fX9_16 dX9_randomReduction_116 (by omega) ((hfc _ (by omega) (by omega) (by omega) (by omega)).trans lk_eq) rfl rfl ?_
          refine A_sipush (q := 122) X dX9_randomReduction_119 (by decide) rfl ?_
          refine A_iald (q := 123) (h := 58) 200 X dX9_randomReduction_122 (by omega) ((hfc _ (by omega) (by omega) (by omega) (by omega)).trans (lk_ne (by omega) h58)) (by omega) (by omega) (by decide) rfl ?_
          rw [hS8]
          refine A_iadd (q := 124) X dX9_randomReduction_123 rfl ?_
          refine A_istore_n (q := 125) X dX9_randomReduction_124 (by decide) (okP_s rfl rfl) rfl ?_
          refine A_iinc (q := 128) X dX9_randomReduction_125 rfl (by decide) (okP_s rfl rfl) rfl ?_
          refine A_goto (q := 35) X dX9_randomReduction_128 rfl ?_
          have er : rdT (rnd sd) t = t := by unfold rdT; rw [if_pos (by omega), nthF_eq hk2 hk3 hk1, ctO_rx hk2, if_neg hb100]; rfl
          have hA2 : a + (((t.length : Nat) : Int) + (rdR r (rnd sd) t).1) = A := by rw [← hA, ← er]; rfl
          have hB2 : (rdR r (rnd sd) t).2 = B := by rw [← hB, ← er]; rfl
          exact AW.loc (sS rfl (sS rfl (sZ rfl rfl (sZ rfl (by omega) (sN (sN sE)))))) (ih (i + 1) (a + ((t.length : Nat) : Int)) (rnd sd) t _ (by omega) (by omega) (((hfc _ (by omega) (by omega) (by omega) (by omega)).trans lk_eq)) (hT8.keep (((hfc 58 (by omega) (by omega) (by omega) (by omega)).trans (lk_ne (by omega) rfl)))) hg8 (hPo.2.choose_spec.mr.keep (rfl)) (hSc2.keep (rfl) (rfl) (rfl)) (by rw [show nq - (i + 1) = r by omega, Int.add_assoc]; exact hA2) (by rw [show nq - (i + 1) = r by omega]; exact hB2) (fun k n0 n1 n2 n3 n4 n5 => ((hfc k (by omega) (by omega) (by omega) (by omega)).trans (lk_ne (by omega) (hf0 k n0 n1 n2 n3 n4 n5)))))
        · refine A_aload_n (q := 104) X dX9_randomReduction_103 rfl rfl ?_
          refine A_getf (q := 107) X fX9_22 dX9_randomReduction_104 (by omega) ((hfc _ (by omega) (by omega) (by omega) (by omega)).trans lk_eq) rfl rfl ?_
          refine A_aload_n (q := 108) X dX9_randomReduction_107 rfl rfl ?_
          refine A_getf (q := 111) X fX9_16 dX9_randomReduction_108 (by omega) ((hfc _ (by omega) (by omega) (by omega) (by omega)).trans lk_eq) rfl rfl ?_
          refine A_S2v (q := 114) X (c_assign hG (hPo.1 hb100) (hT8.keep (((hfc 58 (by omega) (by omega) (by omega) (by omega)).trans (lk_ne (by omega) rfl)))).mr (by decide)) mX9_assign kX9_100 dX9_randomReduction_111 (by decide) (Nat.le_of_ble_eq_true rfl) rfl (fun cq_11 hq_10 => ?_)
          obtain ⟨hT9, hf9⟩ := hq_10
          obtain ⟨-, -, F9, h589, hS9, -⟩ := (id hT9 : Mt G _ 58 _)
          refine A_iload_n (q := 115) X dX9_randomReduction_114 rfl rfl ?_
          refine A_aload_n (q := 116) X dX9_randomReduction_115 rfl rfl ?_
          refine A_getf (q := 119) X fX9_16 dX9_randomReduction_116 (by omega) ((hf9 _ (by omega)).trans ((hfc _ (by omega) (by omega) (by omega) (by omega)).trans lk_eq)) rfl rfl ?_
          refine A_sipush (q := 122) X dX9_randomReduction_119 (by decide) rfl ?_
          refine A_iald (q := 123) (h := 58) 200 X dX9_randomReduction_122 (by omega) h589 (by omega) (by omega) (by decide) rfl ?_
          rw [hS9]
          refine A_iadd (q := 124) X dX9_randomReduction_123 rfl ?_
          refine A_istore_n (q := 125) X dX9_randomReduction_124 (by decide) (okP_s rfl rfl) rfl ?_
          refine A_iinc (q := 128) X dX9_randomReduction_125 rfl (by decide) (okP_s rfl rfl) rfl ?_
          refine A_goto (q := 35) X dX9_randomReduction_128 rfl ?_
          have er : rdT (rnd sd) t = (ctr t kk) := by unfold rdT; rw [if_pos (by omega), nthF_eq hk2 hk3 hk1, ctO_rx hk2, if_pos hb100]; rfl
          have hA2 : a + ((((ctr t kk).length : Nat) : Int) + (rdR r (rnd sd) (ctr t kk)).1) = A := by rw [← hA, ← er]; rfl
          have hB2 : (rdR r (rnd sd) (ctr t kk)).2 = B := by rw [← hB, ← er]; rfl
          exact AW.loc (sS rfl (sS rfl (sZ rfl rfl (sZ rfl (by omega) (sN (sN sE)))))) (ih (i + 1) (a + (((ctr t kk).length : Nat) : Int)) (rnd sd) (ctr t kk) _ (by omega) (by omega) (((hf9 _ (by omega)).trans ((hfc _ (by omega) (by omega) (by omega) (by omega)).trans lk_eq))) hT9 (Gd_ctr hg8 hk2 hb100) (hPo.2.choose_spec.mr.keep (((hf9 60 (by omega)).trans rfl))) (hSc2.keep (((hf9 66 (by omega)).trans rfl)) (((hf9 67 (by omega)).trans rfl)) (((hf9 68 (by omega)).trans rfl))) (by rw [show nq - (i + 1) = r by omega, Int.add_assoc]; exact hA2) (by rw [show nq - (i + 1) = r by omega]; exact hB2) (fun k n0 n1 n2 n3 n4 n5 => ((hf9 k (by omega)).trans ((hfc k (by omega) (by omega) (by omega) (by omega)).trans (lk_ne (by omega) (hf0 k n0 n1 n2 n3 n4 n5))))))
