/-! THE MODEL, sixth: runs -/
theorem ctO_m9 (l : List Int) : ctO l (-9) = none := by
  unfold ctO
  refine if_neg (fun h => ?_)
  have h1 := h.1
  unfold tokA at h1
  rw [if_neg (by omega)] at h1
  omega
set_option maxRecDepth 100000 in
set_option maxHeartbeats 4000000 in
theorem lp_X9_runOn {l : Launch} {G : Gm} {K : Cx} {c0 : HP} {a n0 : Nat} {s : Int} {E : List Int × Nat} {th ts rmb obn tw pk : Int} {sd : Int64} (X : Fx l G K cX9_runOn 6 RX9 ((some .int)) (rmR 4 92)) (hG : injG G) (hN : G.2.1 = 72) (h055 : c0 55 = ob9 G th ts rmb obn sd tw pk) (an : a ≠ 60 ∧ a ≠ 66 ∧ a ≠ 67 ∧ a ≠ 68 ∧ a ≠ 55) (hs : 0 ≤ s ∧ s < 4) (hn0 : n0 ≤ 1000) : ∀ (n : Nat) (i : Nat) (t : List Int) (c : HP), n0 - i < n → i ≤ n0 → Mt G c a t → Gd t → Mr G c 60 → Sc G c → (runT s (n0 - i) t).1 = E.1 → i + (runT s (n0 - i) t).2 = E.2 → (∀ k, k ≠ a → k ≠ 60 → k ≠ 66 → k ≠ 67 → k ≠ 68 → c k = c0 k) → AW G K (Qi (fun v c' => v = zI ((E.2 : Nat) : Int) ∧ Mt G c' a E.1 ∧ Mr G c' 60 ∧ Sc G c' ∧ (∀ k, k ≠ a → k ≠ 60 → k ≠ 66 → k ≠ 67 → k ≠ 68 → c' k = c0 k))) 3 (mkL [some (.ref (G.1 55)), some (.ref (G.1 a)), some (.int (zI s)), some (.int (zI ((n0 : Nat) : Int))), some (.int (zI ((i : Nat) : Int))), none]) [] c := by
  intro n
  induction n with
  | zero => intro i t c hmz; exact absurd hmz (Nat.not_lt_zero _)
  | succ n ih =>
    intro i t c hmz hi hT hgd hO hSc hE1 hE2 hf0
    have h55 := (hf0 55 (Ne.symm an.2.2.2.2) (by decide) (by decide) (by decide) (by decide)).trans h055
    have hl0 := hT.len
    refine A_iload (q := 5) X dX9_runOn_3 rfl rfl ?_
    refine A_iload_n (q := 6) X dX9_runOn_5 rfl rfl ?_
    refine A_icmp_ge (q := 9) (t := 50) X dX9_runOn_6 (by omega) (by omega) rfl rfl (fun hb6 => ?_) (fun hb6 => ?_)
    · refine A_iload (q := 52) X dX9_runOn_50 rfl rfl ?_
      have e9 : n0 - i = 0 := by omega
      rw [e9] at hE1 hE2
      have hE2 : i + 0 = E.2 := hE2
      have hE1 : t = E.1 := hE1
      exact A_ireturn X dX9_runOn_52 ⟨congrArg zI (by omega), by rw [← hE1]; exact hT, hO, hSc, hf0⟩
    · refine A_aload_n (q := 10) X dX9_runOn_9 rfl rfl ?_
      refine A_iload_n (q := 11) X dX9_runOn_10 rfl rfl ?_
      refine A_S2i (q := 14) X (c_X9_choose hG hT hgd hs) mX9_choose kX9_94 dX9_runOn_11 (by decide) (Nat.le_of_ble_eq_true rfl) rfl (fun vq_3 cq_2 hq_1 => ?_)
      obtain ⟨rfl, hq_1⟩ := hq_1
      obtain rfl := hq_1.symm
      refine A_istore (q := 16) X dX9_runOn_14 (by decide) (okP_s rfl rfl) rfl ?_
      have hchr : -9 ≤ chz t s ∧ chz t s ≤ 1000 := by rcases chz_cases t s with h | ⟨k, h1, h2, -⟩ <;> omega
      obtain ⟨r, hr⟩ : ∃ r, n0 - i = r + 1 := ⟨n0 - i - 1, by omega⟩
      rw [hr] at hE1 hE2
      refine A_iload (q := 18) X dX9_runOn_16 rfl rfl ?_
      refine A_bipush (q := 20) X dX9_runOn_18 (by decide) rfl ?_
      refine A_icmp_eq (q := 23) (t := 33) X dX9_runOn_20 (by omega) (by decide) rfl rfl (fun hb20 => ?_) (fun hb20 => ?_)
      · refine A_iload (q := 35) X dX9_runOn_33 rfl rfl ?_
        have e9 : stepT s t = none := by unfold stepT; rw [hb20, ctO_m9]
        rw [runT_none e9] at hE1 hE2
        exact A_ireturn X dX9_runOn_35 ⟨congrArg zI (by omega), by rw [← hE1]; exact hT, hO, hSc, hf0⟩
      · obtain ⟨kk, hk1, hch, hrk⟩ : ∃ kk : Nat, kk < t.length ∧ chz t s = ((kk : Nat) : Int) ∧ rx t kk := by rcases chz_cases t s with h | h; exact absurd h hb20; exact h
        rw [hch]
        refine A_aload_n (q := 24) X dX9_runOn_23 rfl rfl ?_
        refine A_aload_n (q := 25) X dX9_runOn_24 rfl rfl ?_
        refine A_iload (q := 27) X dX9_runOn_25 rfl rfl ?_
        refine A_V2i (q := 30) X (c_X9_contract hG hN h55 ⟨an.1, an.2.1, an.2.2.1, an.2.2.2.1⟩ hT hgd hrk hO hSc) mX9_contract kX9_97 dX9_runOn_27 (by omega) h55 rfl (by decide) (Nat.le_of_ble_eq_true rfl) rfl (fun vq_6 cq_5 hq_4 => ?_)
        obtain ⟨rfl, hPo, hSc2, hfc⟩ := hq_4
        refine A_bne (q := 33) (t := 36) X dX9_runOn_30 rfl rfl (fun hb30 => ?_) (fun hb30 => ?_)
        · refine A_aload_n (q := 37) X dX9_runOn_36 rfl rfl ?_
          refine A_getf (q := 40) X fX9_22 dX9_runOn_37 (by omega) ((hfc _ (by omega) (by omega) (by omega) (by omega)).trans h55) rfl rfl ?_
          refine A_aload_n (q := 41) X dX9_runOn_40 rfl rfl ?_
          refine A_S2v (q := 44) X (c_assign hG (hPo.1 hb30) (hT.keep (((hfc a (by omega) (by omega) (by omega) (by omega)).trans rfl))).mr (Ne.symm an.1)) mX9_assign kX9_100 dX9_runOn_41 (by decide) (Nat.le_of_ble_eq_true rfl) rfl (fun cq_8 hq_7 => ?_)
          obtain ⟨hT9, hf9⟩ := hq_7
          refine A_iinc (q := 47) X dX9_runOn_44 rfl (by decide) (okP_s rfl rfl) rfl ?_
          refine A_goto (q := 3) X dX9_runOn_47 rfl ?_
          have e9 : stepT s t = some (ctr t kk) := by unfold stepT; rw [hch, ctO_rx hrk, if_pos hb30]
          rw [runT_some e9] at hE1 hE2
          exact AW.loc (sS rfl (sS rfl (sS rfl (sS rfl (sZ rfl (by omega) (sN sE)))))) (ih (i + 1) (ctr t kk) _ (by omega) (by omega) hT9 (Gd_ctr hgd hrk hb30) (hPo.2.choose_spec.mr.keep (hf9 60 (Ne.symm an.1))) (hSc2.keep (hf9 66 (Ne.symm an.2.1)) (hf9 67 (Ne.symm an.2.2.1)) (hf9 68 (Ne.symm an.2.2.2.1))) (by rw [show n0 - (i + 1) = r by omega]; exact hE1) (by rw [show n0 - (i + 1) = r by omega]; have hE2 : i + ((runT s r (ctr t kk)).2 + 1) = E.2 := hE2; omega) (fun k n0_ n1 n2 n3 n4 => ((hf9 k (by omega)).trans ((hfc k (by omega) (by omega) (by omega) (by omega)).trans (hf0 k n0_ n1 n2 n3 n4)))))
        · refine A_iload (q := 35) X dX9_runOn_33 rfl rfl ?_
          have e9 : stepT s t = none := by unfold stepT; rw [hch, ctO_rx hrk, if_neg hb30]
          rw [runT_none e9] at hE1 hE2
          exact A_ireturn X dX9_runOn_35 ⟨congrArg zI (by omega), by rw [← hE1]; exact hT.keep (((hfc a (by omega) (by omega) (by omega) (by omega)).trans rfl)), ⟨by omega, hPo.2.choose_spec.mr.2⟩, hSc2, (fun k n0_ n1 n2 n3 n4 => ((hfc k (by omega) (by omega) (by omega) (by omega)).trans (hf0 k n0_ n1 n2 n3 n4)))⟩
set_option maxRecDepth 100000 in
set_option maxHeartbeats 4000000 in
theorem c_X9_runOn {l : Launch} {G : Gm} {c : HP} {a n0 : Nat} {s : Int} {t : List Int} {th ts rmb obn tw pk : Int} {sd : Int64} (hG : injG G) (hN : G.2.1 = 72) (h55 : c 55 = ob9 G th ts rmb obn sd tw pk) (an : a ≠ 60 ∧ a ≠ 66 ∧ a ≠ 67 ∧ a ≠ 68 ∧ a ≠ 55) (hs : 0 ≤ s ∧ s < 4) (hn0 : n0 ≤ 1000) (hT : Mt G c a t) (hgd : Gd t) (hO : Mr G c 60) (hSc : Sc G c) : AMet l G yX9_runOn cX9_runOn 6 ((some .int)) (rmR 4 92) [.ref (G.1 55), .ref (G.1 a), .int (zI s), .int (zI ((n0 : Nat) : Int))] c (Qi (fun v c' => v = zI (((runT s n0 t).2 : Nat) : Int) ∧ Mt G c' a (runT s n0 t).1 ∧ Mr G c' 60 ∧ Sc G c' ∧ (∀ k, k ≠ a → k ≠ 60 → k ≠ 66 → k ≠ 67 → k ≠ 68 → c' k = c k))) := by
  refine AMet.of (vl := [some (.ref (G.1 55)), some (.ref (G.1 a)), some (.int (zI s)), some (.int (zI ((n0 : Nat) : Int)))]) (by decide) hG (Nat.le_of_ble_eq_true rfl) rfl ?_
  intro K X
  have X : Fx l G K cX9_runOn 6 RX9 ((some .int)) (rmR 4 92) := X
  refine A_iconst (q := 1) X dX9_runOn_0 rfl ?_
  refine A_istore (q := 3) X dX9_runOn_1 (by decide) (okP_s rfl rfl) rfl ?_
  exact AW.loc (sS rfl (sS rfl (sS rfl (sS rfl (sZ rfl rfl (sN sE)))))) (lp_X9_runOn X hG hN h55 an hs hn0 _ 0 t c (Nat.lt_succ_self _) (Nat.zero_le _) hT hgd hO hSc rfl (Nat.zero_add _) (fun _ _ _ _ _ _ => rfl))
