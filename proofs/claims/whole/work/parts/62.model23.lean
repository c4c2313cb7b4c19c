/-! THE MODEL's calls: scripts -/
theorem pow_b {n : Nat} (h : n ≤ 4) : 1 ≤ 1000 ^ n ∧ 1000 ^ n ≤ 1000000000000 := by
  rcases (show n = 0 ∨ n = 1 ∨ n = 2 ∨ n = 3 ∨ n = 4 by omega) with rfl | rfl | rfl | rfl | rfl <;> decide
theorem lN_pne {n : Nat} (h : n ≤ 4) : ¬ lN (1000 ^ n) = 0 := fun z => by
  have h1 := pow_b h
  have h2 := (pk_lEQ (a := 1000 ^ n) (b := 0) (by omega) (by decide)).mp z
  omega
theorem lN_pm {n : Nat} (h : n ≤ 4) : lN (1000 ^ n) - 1 = lN (1000 ^ n - 1) := lN_sub (b := 1) (pow_b h).1
theorem scr_in {q : Int64} {n : Nat} (hn : n ≤ 4) (h : 0 ≤ q ∧ q ≤ lN (1000 ^ n) - 1) : ∃ m, m < 2 ^ 63 ∧ q = lN m ∧ m / 1000 ^ n = 0 := by
  have h1 := pow_b hn
  obtain ⟨m, hm, rfl⟩ := pk_lOf (x := q) (fun z => by
    have a1 := Int64.le_iff_toInt_le.mp h.1
    have a2 := Int64.lt_iff_toInt_lt.mp z
    omega)
  have h2 := h.2
  rw [lN_pm hn] at h2
  have h3 := (pk_lLE hm (by omega)).mp h2
  exact ⟨m, hm, rfl, Nat.div_eq_of_lt (by omega)⟩
theorem scr_out {q : Int64} {n : Nat} {S : SS} (hn : n ≤ 4) (h : ¬ (0 ≤ q ∧ q ≤ lN (1000 ^ n) - 1)) : fScript ((n : Nat) : Int) q S = (-2, S) := by
  have h1 := pow_b hn
  by_cases hq : q < 0
  · exact fScr_q hq
  · obtain ⟨m, hm, rfl⟩ := pk_lOf hq
    refine fScr_m hm (fun z => h ⟨(pk_lLE (a := 0) (by decide) hm).mpr (Nat.zero_le _), ?_⟩)
    rw [lN_pm hn]
    have h2 : m < 1000 ^ n := by
      rcases Nat.lt_or_ge m (1000 ^ n) with y | y
      · exact y
      · have := Nat.div_pos y (by omega)
        omega
    exact (pk_lLE hm (by omega)).mpr (by omega)
theorem chz_big {l : List Int} {s : Int} (h : 4 ≤ s) : chz l s = -9 := by
  unfold chz
  rw [if_neg (by omega), if_neg (by omega), if_neg (by omega), if_neg (by omega)]
theorem run1_n {l : List Int} {s : Int} (h : chz l s = -9) : (runT s 1 l).1 = l ∧ (runT s 1 l).2 = 0 := by
  have e : stepT s l = none := by unfold stepT; rw [h]; exact ctO_m9 l
  rw [runT_none e]
  exact ⟨rfl, rfl⟩
theorem run1_f {l : List Int} {s : Int} {k : Nat} (h : chz l s = ((k : Nat) : Int)) (hr : rx l k) (hl : ¬ (ctr l k).length ≤ 200) : (runT s 1 l).1 = l ∧ (runT s 1 l).2 = 0 := by
  have e : stepT s l = none := by unfold stepT; rw [h, ctO_rx hr, if_neg hl]
  rw [runT_none e]
  exact ⟨rfl, rfl⟩
theorem run1_y {l : List Int} {s : Int} {k : Nat} (h : chz l s = ((k : Nat) : Int)) (hr : rx l k) (hl : (ctr l k).length ≤ 200) : (runT s 1 l).1 = ctr l k ∧ (runT s 1 l).2 = 1 := by
  have e : stepT s l = some (ctr l k) := by unfold stepT; rw [h, ctO_rx hr, if_pos hl]
  have e2 : runT s 1 l = (ctr l k, 1) := runT_some (n := 0) e
  rw [e2]
  exact ⟨rfl, rfl⟩
set_option maxRecDepth 100000 in
set_option maxHeartbeats 4000000 in
theorem lp_X9_thousands {l : Launch} {G : Gm} {K : Cx} {c : HP} {nq : Nat} (X : Fx l G K cX9_thousands 4 RX9 ((some .long)) (rmR 0 0)) (hn : nq ≤ 1000) : ∀ (n : Nat) (i : Nat), nq - i < n → i ≤ nq → AW G K (Ql (fun v c' => v = lN (1000 ^ nq) ∧ c' = c)) 4 (mkL [some (.int (zI ((nq : Nat) : Int))), some (.long (lN (1000 ^ i))), none, some (.int (zI ((i : Nat) : Int)))]) [] c := by
  intro n
  induction n with
  | zero => intro i hmz; exact absurd hmz (Nat.not_lt_zero _)
  | succ n ih =>
    intro i hmz hi
    refine A_iload_n (q := 5) X dX9_thousands_4 rfl rfl ?_
    refine A_iload_n (q := 6) X dX9_thousands_5 rfl rfl ?_
    refine A_icmp_ge (q := 9) (t := 21) X dX9_thousands_6 (by omega) (by omega) rfl rfl (fun hb6 => ?_) (fun hb6 => ?_)
    · refine A_lload_n (q := 22) X dX9_thousands_21 rfl rfl ?_
      exact A_lreturn X dX9_thousands_22 ⟨by rw [show i = nq by omega], rfl⟩
    · refine A_lload_n (q := 10) X dX9_thousands_9 rfl rfl ?_
      refine A_ldc2 (q := 13) X dX9_thousands_10 nX9_195 rfl ?_
      refine A_lmul (q := 14) X dX9_thousands_13 rfl ?_
      refine A_lstore_n (q := 15) X dX9_thousands_14 (by decide) (okP_s rfl rfl) rfl ?_
      refine A_iinc (q := 18) X dX9_thousands_15 rfl (by decide) (okP_n rfl) rfl ?_
      refine A_goto (q := 4) X dX9_thousands_18 rfl ?_
      exact AW.loc (sS rfl (sS (congrArg (fun z => some (Value.long z)) (show lN (1000 ^ i) * lN 1000 = lN (1000 ^ (i + 1)) by rw [lN_mul, Nat.pow_succ])) (sN (sZ rfl (by omega) sE)))) (ih (i + 1) (by omega) (by omega))
set_option maxRecDepth 100000 in
set_option maxHeartbeats 4000000 in
theorem c_X9_thousands {l : Launch} {G : Gm} {c : HP} {nq : Nat} (hG : injG G) (hn : nq ≤ 1000) : AMet l G yX9_thousands cX9_thousands 4 ((some .long)) (rmR 0 0) [.int (zI ((nq : Nat) : Int))] c (Ql (fun v c' => v = lN (1000 ^ nq) ∧ c' = c)) := by
  refine AMet.of (vl := [some (.int (zI ((nq : Nat) : Int)))]) (by decide) hG (Nat.le_of_ble_eq_true rfl) rfl ?_
  intro K X
  have X : Fx l G K cX9_thousands 4 RX9 ((some .long)) (rmR 0 0) := X
  refine A_lconst (q := 1) (v := 1) X dX9_thousands_0 rfl rfl ?_
  refine A_lstore_n (q := 2) X dX9_thousands_1 (by decide) (okP_s rfl rfl) rfl ?_
  refine A_iconst (q := 3) X dX9_thousands_2 rfl ?_
  refine A_istore_n (q := 4) X dX9_thousands_3 (by decide) (okP_n rfl) rfl ?_
  exact AW.loc (sS rfl (sS (congrArg (fun z => some (Value.long z)) (show (1 : Int64) = lN (1000 ^ 0) from rfl)) (sN (sZ rfl rfl sE)))) (lp_X9_thousands X hn _ 0 (Nat.lt_succ_self _) (Nat.zero_le _))
set_option maxRecDepth 100000 in
set_option maxHeartbeats 4000000 in
theorem c_X9_command {l : Launch} {G : Gm} {c : HP} {t : List Int} {g : Nat} {sd : Int64} {th ts rmb obn tw pk : Int} (hG : injG G) (hN : G.2.1 = 72) (h55 : c 55 = ob9 G th ts rmb obn sd tw pk) (hT : Mt G c 58 t) (hgd : Gd t) (hR9 : Mr G c 59) (hO : Mr G c 60) (hSc : Sc G c) (hg : g < 1000) : AMet l G yX9_command cX9_command 8 ((some .boolean)) (rmR 5 117) [.ref (G.1 55), .int (zI (((g : Nat) : Int) / 100)), .int (zI ((((g : Nat) : Int) / 10) % 10)), .int (zI (((g : Nat) : Int) % 10))] c (Qi (fun v c' => v = zI (if cmdP ((g : Nat) : Int) t then 1 else 0) ∧ Mt G c' 58 (cmdL ((g : Nat) : Int) t) ∧ Mr G c' 59 ∧ Mr G c' 60 ∧ Sc G c' ∧ (∀ k, k ≠ 58 → k ≠ 59 → k ≠ 60 → k ≠ 66 → k ≠ 67 → k ≠ 68 → c' k = c k))) := by
  refine AMet.of (vl := [some (.ref (G.1 55)), some (.int (zI (((g : Nat) : Int) / 100))), some (.int (zI ((((g : Nat) : Int) / 10) % 10))), some (.int (zI (((g : Nat) : Int) % 10)))]) (by decide) hG (Nat.le_of_ble_eq_true rfl) rfl ?_
  intro K X
  have X : Fx l G K cX9_command 8 RX9 ((some .boolean)) (rmR 5 117) := X
  have hl0 := hT.len
  have hcn := cntP_le (rx t) t.length
  obtain ⟨-, -, F8, h58, hS8, -⟩ := (id hT : Mt G c 58 t)
  refine A_bipush (q := 2) X dX9_command_0 (by decide) rfl ?_
  refine A_iload_n (q := 3) X dX9_command_2 rfl rfl ?_
  refine A_imul (q := 4) X dX9_command_3 rfl ?_
  refine A_iload_n (q := 5) X dX9_command_4 rfl rfl ?_
  refine A_iadd (q := 6) X dX9_command_5 rfl ?_
  refine A_istore (q := 8) X dX9_command_6 (by decide) (okP_s rfl rfl) rfl ?_
  refine A_iload_n (q := 9) X dX9_command_8 rfl rfl ?_
  by_cases e9_1 : (((g : Nat) : Int) / 100) = 1
  · refine A_tableIn (q := 44) (off := 35) X dX9_command_9 (by omega) (by omega) (by omega) (by rw [e9_1]; rfl) rfl ?_
    refine A_iload_n (q := 45) X dX9_command_44 rfl rfl ?_
    refine A_if_ne (q := 48) (t := 64) X dX9_command_45 (by omega) rfl rfl (fun hb45 => ?_) (fun hb45 => ?_)
    · refine A_bipush (q := 66) X dX9_command_64 (by decide) rfl ?_
      refine A_istore (q := 68) X dX9_command_66 (by decide) (okP_s rfl rfl) rfl ?_
      refine A_iload (q := 70) X dX9_command_68 rfl rfl ?_
      refine A_bipush (q := 72) X dX9_command_70 (by decide) rfl ?_
      refine A_icmp_eq (q := 75) (t := 92) X dX9_command_72 (by decide) (by decide) rfl rfl (fun hb72 => ?_) (fun hb72 => ?_)
      · refine A_iconst (q := 93) X dX9_command_92 rfl ?_
        refine A_istore (q := 95) X dX9_command_93 (by decide) (okP_s rfl rfl) rfl ?_
        refine A_iload (q := 97) X dX9_command_95 rfl rfl ?_
        refine A_if_eq (q := 100) (t := 111) X dX9_command_97 (by decide) rfl rfl (fun hb97 => ?_) (fun hb97 => ?_)
        · refine A_iload (q := 113) X dX9_command_111 rfl rfl ?_
          have e9 : cmdL ((g : Nat) : Int) t = t := by unfold cmdL; rw [if_neg (by omega), if_neg (by omega)]
          exact A_zreturn X dX9_command_113 (by decide) ⟨zb0 (by omega), by rw [e9]; exact hT, hR9, hO, hSc, (fun k n0 n1 n2 n3 n4 n5 => rfl)⟩
        · exact absurd hb97 (by decide)
      · exact absurd rfl hb72
    · refine A_iload_n (q := 49) X dX9_command_48 rfl rfl ?_
      refine A_iconst (q := 50) X dX9_command_49 rfl ?_
      refine A_icmp_ge (q := 53) (t := 64) X dX9_command_50 (by omega) (by decide) rfl rfl (fun hb50 => ?_) (fun hb50 => ?_)
      · refine A_bipush (q := 66) X dX9_command_64 (by decide) rfl ?_
        refine A_istore (q := 68) X dX9_command_66 (by decide) (okP_s rfl rfl) rfl ?_
        refine A_iload (q := 70) X dX9_command_68 rfl rfl ?_
        refine A_bipush (q := 72) X dX9_command_70 (by decide) rfl ?_
        refine A_icmp_eq (q := 75) (t := 92) X dX9_command_72 (by decide) (by decide) rfl rfl (fun hb72 => ?_) (fun hb72 => ?_)
        · have er := run1_n (chz_big (l := t) (s := (((g : Nat) : Int) % 10)) (by omega))
          refine A_iconst (q := 93) X dX9_command_92 rfl ?_
          refine A_istore (q := 95) X dX9_command_93 (by decide) (okP_s rfl rfl) rfl ?_
          refine A_iload (q := 97) X dX9_command_95 rfl rfl ?_
          refine A_if_eq (q := 100) (t := 111) X dX9_command_97 (by decide) rfl rfl (fun hb97 => ?_) (fun hb97 => ?_)
          · refine A_iload (q := 113) X dX9_command_111 rfl rfl ?_
            have e9 : cmdL ((g : Nat) : Int) t = t := by unfold cmdL; rw [if_pos (by omega)]; exact er.1
            have er2 := er.2
            exact A_zreturn X dX9_command_113 (by decide) ⟨zb0 (by omega), by rw [e9]; exact hT, hR9, hO, hSc, (fun k n0 n1 n2 n3 n4 n5 => rfl)⟩
          · exact absurd hb97 (by decide)
        · exact absurd rfl hb72
      · refine A_aload_n (q := 54) X dX9_command_53 rfl rfl ?_
        refine A_getf (q := 57) X fX9_16 dX9_command_54 (by omega) h55 rfl rfl ?_
        refine A_iload_n (q := 58) X dX9_command_57 rfl rfl ?_
        refine A_S2i (q := 61) X (c_X9_choose (s := (((g : Nat) : Int) % 10)) hG hT hgd (by omega)) mX9_choose kX9_94 dX9_command_58 (by decide) (Nat.le_of_ble_eq_true rfl) rfl (fun vq_3 cq_2 hq_1 => ?_)
        obtain ⟨rfl, hq_1⟩ := hq_1
        obtain rfl := hq_1.symm
        have hchr : -9 ≤ chz t (((g : Nat) : Int) % 10) ∧ chz t (((g : Nat) : Int) % 10) ≤ 1000 := by rcases chz_cases t (((g : Nat) : Int) % 10) with h | ⟨k, h1, h2, -⟩ <;> omega
        refine A_goto (q := 66) X dX9_command_61 rfl ?_
        refine A_istore (q := 68) X dX9_command_66 (by decide) (okP_s rfl rfl) rfl ?_
        refine A_iload (q := 70) X dX9_command_68 rfl rfl ?_
        refine A_bipush (q := 72) X dX9_command_70 (by decide) rfl ?_
        refine A_icmp_eq (q := 75) (t := 92) X dX9_command_72 (by omega) (by decide) rfl rfl (fun hb72 => ?_) (fun hb72 => ?_)
        · have er := run1_n hb72
          refine A_iconst (q := 93) X dX9_command_92 rfl ?_
          refine A_istore (q := 95) X dX9_command_93 (by decide) (okP_s rfl rfl) rfl ?_
          refine A_iload (q := 97) X dX9_command_95 rfl rfl ?_
          refine A_if_eq (q := 100) (t := 111) X dX9_command_97 (by decide) rfl rfl (fun hb97 => ?_) (fun hb97 => ?_)
          · refine A_iload (q := 113) X dX9_command_111 rfl rfl ?_
            have e9 : cmdL ((g : Nat) : Int) t = t := by unfold cmdL; rw [if_pos (by omega)]; exact er.1
            have er2 := er.2
            exact A_zreturn X dX9_command_113 (by decide) ⟨zb0 (by omega), by rw [e9]; exact hT, hR9, hO, hSc, (fun k n0 n1 n2 n3 n4 n5 => rfl)⟩
          · exact absurd hb97 (by decide)
        · obtain ⟨kk, hk1, hch, hrk⟩ : ∃ kk : Nat, kk < t.length ∧ chz t (((g : Nat) : Int) % 10) = ((kk : Nat) : Int) ∧ rx t kk := by rcases chz_cases t (((g : Nat) : Int) % 10) with h | h; exact absurd h hb72; exact h
          rw [hch]
          refine A_aload_n (q := 76) X dX9_command_75 rfl rfl ?_
          refine A_aload_n (q := 77) X dX9_command_76 rfl rfl ?_
          refine A_getf (q := 80) X fX9_16 dX9_command_77 (by omega) h55 rfl rfl ?_
          refine A_iload (q := 82) X dX9_command_80 rfl rfl ?_
          refine A_V2i (q := 85) X (c_X9_contract hG hN h55 (by decide) hT hgd hrk hO hSc) mX9_contract kX9_97 dX9_command_82 (by omega) h55 rfl (by decide) (Nat.le_of_ble_eq_true rfl) rfl (fun vq_6 cq_5 hq_4 => ?_)
          obtain ⟨rfl, hPo, hSc2, hfc⟩ := hq_4
          refine A_beq (q := 88) (t := 92) X dX9_command_85 rfl rfl (fun hb85 => ?_) (fun hb85 => ?_)
          · have er := run1_f hch hrk hb85
            refine A_iconst (q := 93) X dX9_command_92 rfl ?_
            refine A_istore (q := 95) X dX9_command_93 (by decide) (okP_s rfl rfl) rfl ?_
            refine A_iload (q := 97) X dX9_command_95 rfl rfl ?_
            refine A_if_eq (q := 100) (t := 111) X dX9_command_97 (by decide) rfl rfl (fun hb97 => ?_) (fun hb97 => ?_)
            · refine A_iload (q := 113) X dX9_command_111 rfl rfl ?_
              have e9 : cmdL ((g : Nat) : Int) t = t := by unfold cmdL; rw [if_pos (by omega)]; exact er.1
              have er2 := er.2
              exact A_zreturn X dX9_command_113 (by decide) ⟨zb0 (by omega), by rw [e9]; exact (hT.keep (((hfc 58 (by omega) (by omega) (by omega) (by omega)).trans rfl))), (hR9.keep (((hfc 59 (by omega) (by omega) (by omega) (by omega)).trans rfl))), hPo.2.choose_spec.mr, hSc2, (fun k n0 n1 n2 n3 n4 n5 => ((hfc k (by omega) (by omega) (by omega) (by omega)).trans rfl))⟩
            · exact absurd hb97 (by decide)
          · have er := run1_y hch hrk hb85
            refine A_iconst (q := 89) X dX9_command_88 rfl ?_
            refine A_goto (q := 93) X dX9_command_89 rfl ?_
            refine A_istore (q := 95) X dX9_command_93 (by decide) (okP_s rfl rfl) rfl ?_
            refine A_iload (q := 97) X dX9_command_95 rfl rfl ?_
            refine A_if_eq (q := 100) (t := 111) X dX9_command_97 (by decide) rfl rfl (fun hb97 => ?_) (fun hb97 => ?_)
            · exact absurd hb97 (by decide)
            · refine A_aload_n (q := 101) X dX9_command_100 rfl rfl ?_
              refine A_getf (q := 104) X fX9_22 dX9_command_101 (by omega) ((hfc _ (by omega) (by omega) (by omega) (by omega)).trans h55) rfl rfl ?_
              refine A_aload_n (q := 105) X dX9_command_104 rfl rfl ?_
              refine A_getf (q := 108) X fX9_16 dX9_command_105 (by omega) ((hfc _ (by omega) (by omega) (by omega) (by omega)).trans h55) rfl rfl ?_
              refine A_S2v (q := 111) X (c_assign hG (hPo.1 hb85) (hT.keep (((hfc 58 (by omega) (by omega) (by omega) (by omega)).trans rfl))).mr (by decide)) mX9_assign kX9_100 dX9_command_108 (by decide) (Nat.le_of_ble_eq_true rfl) rfl (fun cq_8 hq_7 => ?_)
              obtain ⟨hT9, hf9⟩ := hq_7
              refine A_iload (q := 113) X dX9_command_111 rfl rfl ?_
              have e9 : cmdL ((g : Nat) : Int) t = (ctr t kk) := by unfold cmdL; rw [if_pos (by omega)]; exact er.1
              have er2 := er.2
              exact A_zreturn X dX9_command_113 (by decide) ⟨zb1 (by omega), by rw [e9]; exact hT9, (hR9.keep (((hf9 59 (by omega)).trans ((hfc 59 (by omega) (by omega) (by omega) (by omega)).trans rfl)))), (hPo.2.choose_spec.mr.keep (((hf9 60 (by omega)).trans rfl))), (hSc2.keep (((hf9 66 (by omega)).trans rfl)) (((hf9 67 (by omega)).trans rfl)) (((hf9 68 (by omega)).trans rfl))), (fun k n0 n1 n2 n3 n4 n5 => ((hf9 k (by omega)).trans ((hfc k (by omega) (by omega) (by omega) (by omega)).trans rfl)))⟩
  · skip
    by_cases e9_2 : (((g : Nat) : Int) / 100) = 2
    · refine A_tableIn (q := 114) (off := 105) X dX9_command_9 (by omega) (by omega) (by omega) (by rw [e9_2]; rfl) rfl ?_
      refine A_aload_n (q := 115) X dX9_command_114 rfl rfl ?_
      refine A_getf (q := 118) X fX9_16 dX9_command_115 (by omega) h55 rfl rfl ?_
      refine A_sipush (q := 121) X dX9_command_118 (by decide) rfl ?_
      refine A_iald (q := 122) (h := 58) 200 X dX9_command_121 (by omega) h58 (by omega) (by omega) (by decide) rfl ?_
      rw [hS8]
      refine A_iload (q := 124) X dX9_command_122 rfl rfl ?_
      refine A_icmp_ne (q := 127) (t := 131) X dX9_command_124 (by omega) (by omega) rfl rfl (fun hb124 => ?_) (fun hb124 => ?_)
      · refine A_iconst (q := 132) X dX9_command_131 rfl ?_
        have e9 : cmdL ((g : Nat) : Int) t = t := by unfold cmdL; rw [if_neg (by omega), if_neg (by omega)]
        exact A_zreturn X dX9_command_132 (by decide) ⟨zb0 (by omega), by rw [e9]; exact hT, hR9, hO, hSc, (fun k n0 n1 n2 n3 n4 n5 => rfl)⟩
      · refine A_iconst (q := 128) X dX9_command_127 rfl ?_
        refine A_goto (q := 132) X dX9_command_128 rfl ?_
        have e9 : cmdL ((g : Nat) : Int) t = t := by unfold cmdL; rw [if_neg (by omega), if_neg (by omega)]
        exact A_zreturn X dX9_command_132 (by decide) ⟨zb1 (by omega), by rw [e9]; exact hT, hR9, hO, hSc, (fun k n0 n1 n2 n3 n4 n5 => rfl)⟩
    · skip
      by_cases e9_3 : (((g : Nat) : Int) / 100) = 3
      · refine A_tableIn (q := 133) (off := 124) X dX9_command_9 (by omega) (by omega) (by omega) (by rw [e9_3]; rfl) rfl ?_
        refine A_aload_n (q := 134) X dX9_command_133 rfl rfl ?_
        refine A_getf (q := 137) X fX9_16 dX9_command_134 (by omega) h55 rfl rfl ?_
        refine A_S1i (q := 140) X (c_X9_redexes hG hT hgd) mX9_redexes kX9_108 dX9_command_137 (by decide) (Nat.le_of_ble_eq_true rfl) rfl (fun vq_11 cq_10 hq_9 => ?_)
        obtain ⟨rfl, hq_9⟩ := hq_9
        obtain rfl := hq_9.symm
        refine A_iload (q := 142) X dX9_command_140 rfl rfl ?_
        refine A_icmp_ne (q := 145) (t := 149) X dX9_command_142 (by omega) (by omega) rfl rfl (fun hb142 => ?_) (fun hb142 => ?_)
        · refine A_iconst (q := 150) X dX9_command_149 rfl ?_
          have e9 : cmdL ((g : Nat) : Int) t = t := by unfold cmdL; rw [if_neg (by omega), if_neg (by omega)]
          exact A_zreturn X dX9_command_150 (by decide) ⟨zb0 (by omega), by rw [e9]; exact hT, hR9, hO, hSc, (fun k n0 n1 n2 n3 n4 n5 => rfl)⟩
        · refine A_iconst (q := 146) X dX9_command_145 rfl ?_
          refine A_goto (q := 150) X dX9_command_146 rfl ?_
          have e9 : cmdL ((g : Nat) : Int) t = t := by unfold cmdL; rw [if_neg (by omega), if_neg (by omega)]
          exact A_zreturn X dX9_command_150 (by decide) ⟨zb1 (by omega), by rw [e9]; exact hT, hR9, hO, hSc, (fun k n0 n1 n2 n3 n4 n5 => rfl)⟩
      · skip
        by_cases e9_4 : (((g : Nat) : Int) / 100) = 4
        · refine A_tableIn (q := 151) (off := 142) X dX9_command_9 (by omega) (by omega) (by omega) (by rw [e9_4]; rfl) rfl ?_
          refine A_aload_n (q := 152) X dX9_command_151 rfl rfl ?_
          refine A_getf (q := 155) X fX9_16 dX9_command_152 (by omega) h55 rfl rfl ?_
          refine A_aload_n (q := 156) X dX9_command_155 rfl rfl ?_
          refine A_getf (q := 159) X fX9_19 dX9_command_156 (by omega) h55 rfl rfl ?_
          refine A_S2v (q := 162) X (c_assign hG hT hR9 (by decide)) mX9_assign kX9_100 dX9_command_159 (by decide) (Nat.le_of_ble_eq_true rfl) rfl (fun cq_13 hq_12 => ?_)
          obtain ⟨hT9, hf9⟩ := hq_12
          refine A_iload_n (q := 163) X dX9_command_162 rfl rfl ?_
          refine A_iconst (q := 164) X dX9_command_163 rfl ?_
          refine A_icmp_ge (q := 167) (t := 186) X dX9_command_164 (by omega) (by decide) rfl rfl (fun hb164 => ?_) (fun hb164 => ?_)
          · refine A_iconst (q := 187) X dX9_command_186 rfl ?_
            have e9 : cmdL ((g : Nat) : Int) t = t := by unfold cmdL; rw [if_neg (by omega), if_neg (by omega)]
            exact A_zreturn X dX9_command_187 (by decide) ⟨zb0 (by omega), by rw [e9]; exact (hT.keep (((hf9 58 (by omega)).trans rfl))), hT9.mr, (hO.keep (((hf9 60 (by omega)).trans rfl))), (hSc.keep (((hf9 66 (by omega)).trans rfl)) (((hf9 67 (by omega)).trans rfl)) (((hf9 68 (by omega)).trans rfl))), (fun k n0 n1 n2 n3 n4 n5 => ((hf9 k (by omega)).trans rfl))⟩
          · refine A_aload_n (q := 168) X dX9_command_167 rfl rfl ?_
            refine A_aload_n (q := 169) X dX9_command_168 rfl rfl ?_
            refine A_getf (q := 172) X fX9_19 dX9_command_169 (by omega) ((hf9 _ (by omega)).trans h55) rfl rfl ?_
            refine A_iload_n (q := 173) X dX9_command_172 rfl rfl ?_
            refine A_bipush (q := 175) X dX9_command_173 (by decide) rfl ?_
            refine A_V3i (q := 178) X (c_X9_runOn (n0 := 9) (s := ((((g : Nat) : Int) / 10) % 10)) hG hN (((hf9 _ (by omega)).trans h55)) (by decide) (by omega) (by omega) hT9 hgd (hO.keep (((hf9 60 (by omega)).trans rfl))) (hSc.keep (((hf9 66 (by omega)).trans rfl)) (((hf9 67 (by omega)).trans rfl)) (((hf9 68 (by omega)).trans rfl)))) mX9_runOn kX9_104 dX9_command_175 (by omega) ((hf9 _ (by omega)).trans h55) rfl (by decide) (Nat.le_of_ble_eq_true rfl) rfl (fun vq_16 cq_15 hq_14 => ?_)
            obtain ⟨rfl, hT9b, hO9, hSc9, hf9b⟩ := hq_14
            have hrl := runT_le ((((g : Nat) : Int) / 10) % 10) 9 t
            refine A_iload_n (q := 179) X dX9_command_178 rfl rfl ?_
            refine A_icmp_ne (q := 182) (t := 186) X dX9_command_179 (by omega) (by omega) rfl rfl (fun hb179 => ?_) (fun hb179 => ?_)
            · refine A_iconst (q := 187) X dX9_command_186 rfl ?_
              have e9 : cmdL ((g : Nat) : Int) t = t := by unfold cmdL; rw [if_neg (by omega), if_neg (by omega)]
              exact A_zreturn X dX9_command_187 (by decide) ⟨zb0 (by omega), by rw [e9]; exact (hT.keep (((hf9b 58 (by omega) (by omega) (by omega) (by omega) (by omega)).trans ((hf9 58 (by omega)).trans rfl)))), hT9b.mr, hO9, hSc9, (fun k n0 n1 n2 n3 n4 n5 => ((hf9b k (by omega) (by omega) (by omega) (by omega) (by omega)).trans ((hf9 k (by omega)).trans rfl)))⟩
            · refine A_iconst (q := 183) X dX9_command_182 rfl ?_
              refine A_goto (q := 187) X dX9_command_183 rfl ?_
              have e9 : cmdL ((g : Nat) : Int) t = t := by unfold cmdL; rw [if_neg (by omega), if_neg (by omega)]
              exact A_zreturn X dX9_command_187 (by decide) ⟨zb1 (by omega), by rw [e9]; exact (hT.keep (((hf9b 58 (by omega) (by omega) (by omega) (by omega) (by omega)).trans ((hf9 58 (by omega)).trans rfl)))), hT9b.mr, hO9, hSc9, (fun k n0 n1 n2 n3 n4 n5 => ((hf9b k (by omega) (by omega) (by omega) (by omega) (by omega)).trans ((hf9 k (by omega)).trans rfl)))⟩
        · skip
          by_cases e9_5 : (((g : Nat) : Int) / 100) = 5
          · refine A_tableIn (q := 188) (off := 179) X dX9_command_9 (by omega) (by omega) (by omega) (by rw [e9_5]; rfl) rfl ?_
            refine A_iload (q := 190) X dX9_command_188 rfl rfl ?_
            refine A_if_ne (q := 193) (t := 211) X dX9_command_190 (by omega) rfl rfl (fun hb190 => ?_) (fun hb190 => ?_)
            · refine A_iconst (q := 212) X dX9_command_211 rfl ?_
              refine A_istore (q := 214) X dX9_command_212 (by decide) (okP_n rfl) rfl ?_
              refine A_iload (q := 216) X dX9_command_214 rfl rfl ?_
              refine A_if_eq (q := 219) (t := 230) X dX9_command_216 (by decide) rfl rfl (fun hb216 => ?_) (fun hb216 => ?_)
              · refine A_iload (q := 232) X dX9_command_230 rfl rfl ?_
                have e9 : cmdL ((g : Nat) : Int) t = t := by unfold cmdL; rw [if_neg (by omega), if_neg (by omega)]
                exact A_zreturn X dX9_command_232 (by decide) ⟨zb0 (by omega), by rw [e9]; exact hT, hR9, hO, hSc, (fun k n0 n1 n2 n3 n4 n5 => rfl)⟩
              · exact absurd hb216 (by decide)
            · refine A_aload_n (q := 194) X dX9_command_193 rfl rfl ?_
              refine A_sipush (q := 197) X dX9_command_194 (by decide) rfl ?_
              refine A_aload_n (q := 198) X dX9_command_197 rfl rfl ?_
              refine A_getf (q := 201) X fX9_16 dX9_command_198 (by omega) h55 rfl rfl ?_
              refine A_V2i (q := 204) X (c_X9_putBehind hG hN h55 (by decide) hT hO) mX9_putBehind kX9_145 dX9_command_201 (by omega) h55 rfl (by decide) (Nat.le_of_ble_eq_true rfl) rfl (fun vq_19 cq_18 hq_17 => ?_)
              obtain ⟨rfl, hPb, hfb⟩ := hq_17
              have hlc : ((1001 : Int) :: t).length = t.length + 1 := rfl
              refine A_beq (q := 207) (t := 211) X dX9_command_204 rfl rfl (fun hb204 => ?_) (fun hb204 => ?_)
              · refine A_iconst (q := 212) X dX9_command_211 rfl ?_
                refine A_istore (q := 214) X dX9_command_212 (by decide) (okP_n rfl) rfl ?_
                refine A_iload (q := 216) X dX9_command_214 rfl rfl ?_
                refine A_if_eq (q := 219) (t := 230) X dX9_command_216 (by decide) rfl rfl (fun hb216 => ?_) (fun hb216 => ?_)
                · refine A_iload (q := 232) X dX9_command_230 rfl rfl ?_
                  have e9 : cmdL ((g : Nat) : Int) t = t := by unfold cmdL; rw [if_neg (by omega), if_neg (by omega)]
                  exact A_zreturn X dX9_command_232 (by decide) ⟨zb0 (by omega), by rw [e9]; exact (hT.keep (((hfb 58 (by omega)).trans rfl))), (hR9.keep (((hfb 59 (by omega)).trans rfl))), hPb.2.choose_spec.mr, (hSc.keep (((hfb 66 (by omega)).trans rfl)) (((hfb 67 (by omega)).trans rfl)) (((hfb 68 (by omega)).trans rfl))), (fun k n0 n1 n2 n3 n4 n5 => ((hfb k (by omega)).trans rfl))⟩
                · exact absurd hb216 (by decide)
              · refine A_iconst (q := 208) X dX9_command_207 rfl ?_
                refine A_goto (q := 212) X dX9_command_208 rfl ?_
                refine A_istore (q := 214) X dX9_command_212 (by decide) (okP_n rfl) rfl ?_
                refine A_iload (q := 216) X dX9_command_214 rfl rfl ?_
                refine A_if_eq (q := 219) (t := 230) X dX9_command_216 (by decide) rfl rfl (fun hb216 => ?_) (fun hb216 => ?_)
                · exact absurd hb216 (by decide)
                · refine A_aload_n (q := 220) X dX9_command_219 rfl rfl ?_
                  refine A_getf (q := 223) X fX9_22 dX9_command_220 (by omega) ((hfb _ (by omega)).trans h55) rfl rfl ?_
                  refine A_aload_n (q := 224) X dX9_command_223 rfl rfl ?_
                  refine A_getf (q := 227) X fX9_16 dX9_command_224 (by omega) ((hfb _ (by omega)).trans h55) rfl rfl ?_
                  refine A_S2v (q := 230) X (c_assign hG (hPb.1 hb204) (hT.keep (((hfb 58 (by omega)).trans rfl))).mr (by decide)) mX9_assign kX9_100 dX9_command_227 (by decide) (Nat.le_of_ble_eq_true rfl) rfl (fun cq_21 hq_20 => ?_)
                  obtain ⟨hT9, hf9⟩ := hq_20
                  refine A_iload (q := 232) X dX9_command_230 rfl rfl ?_
                  have e9 : cmdL ((g : Nat) : Int) t = ((1001 : Int) :: t) := by unfold cmdL; rw [if_neg (by omega), if_pos (by omega)]
                  exact A_zreturn X dX9_command_232 (by decide) ⟨zb1 (by omega), by rw [e9]; exact hT9, (hR9.keep (((hf9 59 (by omega)).trans ((hfb 59 (by omega)).trans rfl)))), (hPb.2.choose_spec.mr.keep (((hf9 60 (by omega)).trans rfl))), (hSc.keep (((hf9 66 (by omega)).trans ((hfb 66 (by omega)).trans rfl))) (((hf9 67 (by omega)).trans ((hfb 67 (by omega)).trans rfl))) (((hf9 68 (by omega)).trans ((hfb 68 (by omega)).trans rfl)))), (fun k n0 n1 n2 n3 n4 n5 => ((hf9 k (by omega)).trans ((hfb k (by omega)).trans rfl)))⟩
          · skip
            refine A_tableOut (q := 233) X dX9_command_9 (by omega) (by omega) rfl ?_
            refine A_iconst (q := 234) X dX9_command_233 rfl ?_
            have e9 : cmdL ((g : Nat) : Int) t = t := by unfold cmdL; rw [if_neg (by omega), if_neg (by omega)]
            exact A_zreturn X dX9_command_234 (by decide) ⟨zb0 (by omega), by rw [e9]; exact hT, hR9, hO, hSc, (fun k n0 n1 n2 n3 n4 n5 => rfl)⟩
set_option maxRecDepth 100000 in
set_option maxHeartbeats 4000000 in
theorem lp_X9_runScript {l : Launch} {G : Gm} {K : Cx} {c0 : HP} {m nq : Nat} {A : Int} {sd : Int64} {th ts rmb obn tw pk : Int} (X : Fx l G K cX9_runScript 6 RX9 ((some .int)) (rmR 6 144)) (hG : injG G) (hN : G.2.1 = 72) (h055 : c0 55 = ob9 G th ts rmb obn sd tw pk) (hm : m < 2 ^ 63) (hn : 1 ≤ nq ∧ nq ≤ 4) : ∀ (n : Nat) (i : Nat) (t : List Int) (c : HP), nq - i < n → i ≤ nq → Mt G c 58 t → Gd t → Mr G c 59 → Mr G c 60 → Sc G c → scr m nq (nq - i) t = A → (∀ k, k ≠ 58 → k ≠ 59 → k ≠ 60 → k ≠ 66 → k ≠ 67 → k ≠ 68 → c k = c0 k) → AW G K (Qi (fun v c' => v = zI A ∧ Mr G c' 58 ∧ Mr G c' 59 ∧ Mr G c' 60 ∧ Sc G c' ∧ (∀ k, k ≠ 58 → k ≠ 59 → k ≠ 60 → k ≠ 66 → k ≠ 67 → k ≠ 68 → c' k = c0 k))) 48 (mkL [some (.ref (G.1 55)), some (.int (zI ((nq : Nat) : Int))), some (.long (lN m)), none, some (.int (zI ((i : Nat) : Int))), none]) [] c := by
  intro n
  induction n with
  | zero => intro i t c hmz; exact absurd hmz (Nat.not_lt_zero _)
  | succ n ih =>
    intro i t c hmz hi hT hgd hR9 hO hSc hA hf0
    have h55 := (hf0 55 (by omega) (by omega) (by omega) (by omega) (by omega) (by omega)).trans h055
    refine A_iload (q := 50) X dX9_runScript_48 rfl rfl ?_
    refine A_iload_n (q := 51) X dX9_runScript_50 rfl rfl ?_
    refine A_icmp_ge (q := 54) (t := 106) X dX9_runScript_51 (by omega) (by omega) rfl rfl (fun hb51 => ?_) (fun hb51 => ?_)
    · refine A_bipush (q := 108) X dX9_runScript_106 (by decide) rfl ?_
      exact A_ireturn X dX9_runScript_108 ⟨by rw [← hA, show nq - i = 0 by omega]; rfl, hT.mr, hR9, hO, hSc, hf0⟩
    · obtain ⟨r, hr⟩ : ∃ r, nq - i = r + 1 := ⟨nq - i - 1, by omega⟩
      rw [hr] at hA
      have hpb := pow_b (n := r) (by omega)
      refine A_lload_n (q := 55) X dX9_runScript_54 rfl rfl ?_
      refine A_iload_n (q := 56) X dX9_runScript_55 rfl rfl ?_
      refine A_iconst (q := 57) X dX9_runScript_56 rfl ?_
      refine A_isub (q := 58) X dX9_runScript_57 rfl ?_
      refine A_iload (q := 60) X dX9_runScript_58 rfl rfl ?_
      refine A_isub (q := 61) X dX9_runScript_60 rfl ?_
      rw [show zI ((((nq : Nat) : Int) - 1) - ((i : Nat) : Int)) = zI ((r : Nat) : Int) from congrArg zI (by omega)]
      refine A_S1l (q := 64) X (c_X9_thousands (nq := (r)) hG (by omega)) mX9_thousands kX9_197 dX9_runScript_61 (by decide) (Nat.le_of_ble_eq_true rfl) rfl (fun vq_3 cq_2 hq_1 => ?_)
      obtain ⟨rfl, hq_1⟩ := hq_1
      obtain rfl := hq_1.symm
      refine A_ldiv (q := 65) X dX9_runScript_64 (lN_pne (by omega)) rfl ?_
      rw [show lN m / lN (1000 ^ r) = lN (m / 1000 ^ r) from pk_lDiv hm (by omega) (by omega)]
      refine A_ldc2 (q := 68) X dX9_runScript_65 nX9_195 rfl ?_
      refine A_lrem (q := 69) X dX9_runScript_68 (by decide) rfl ?_
      refine A_l2i (q := 70) X dX9_runScript_69 rfl ?_
      show AW G K _ _ _ (.int ((lN (m / 1000 ^ r) - lN (m / 1000 ^ r) / 1000 * 1000).toInt32) :: _) _
      rw [grp_i32 hm r]
      obtain ⟨g, hge, hg⟩ : ∃ g, m / 1000 ^ r % 1000 = g ∧ g < 1000 := ⟨_, rfl, Nat.mod_lt _ (by decide)⟩
      rw [hge]
      refine A_istore (q := 72) X dX9_runScript_70 (by decide) (okP_s rfl rfl) rfl ?_
      refine A_aload_n (q := 73) X dX9_runScript_72 rfl rfl ?_
      refine A_iload (q := 75) X dX9_runScript_73 rfl rfl ?_
      refine A_bipush (q := 77) X dX9_runScript_75 (by decide) rfl ?_
      refine A_idiv (q := 78) X dX9_runScript_77 (by omega) (by omega) (by decide) (by decide) rfl ?_
      refine A_iload (q := 80) X dX9_runScript_78 rfl rfl ?_
      refine A_bipush (q := 82) X dX9_runScript_80 (by decide) rfl ?_
      refine A_idiv (q := 83) X dX9_runScript_82 (by omega) (by omega) (by decide) (by decide) rfl ?_
      refine A_bipush (q := 85) X dX9_runScript_83 (by decide) rfl ?_
      refine A_irem (q := 86) X dX9_runScript_85 (by omega) (by omega) (by decide) (by decide) rfl ?_
      refine A_iload (q := 88) X dX9_runScript_86 rfl rfl ?_
      refine A_bipush (q := 90) X dX9_runScript_88 (by decide) rfl ?_
      refine A_irem (q := 91) X dX9_runScript_90 (by omega) (by omega) (by decide) (by decide) rfl ?_
      refine A_V3i (q := 94) X (c_X9_command (g := g) hG hN h55 hT hgd hR9 hO hSc hg) mX9_command kX9_201 dX9_runScript_91 (by omega) h55 rfl (by decide) (Nat.le_of_ble_eq_true rfl) rfl (fun vq_6 cq_5 hq_4 => ?_)
      obtain ⟨rfl, hTb, hR9b, hOb, hScb, hfb⟩ := hq_4
      refine A_bne (q := 97) (t := 100) X dX9_runScript_94 rfl rfl (fun hb94 => ?_) (fun hb94 => ?_)
      · refine A_iinc (q := 103) X dX9_runScript_100 rfl (by decide) (okP_n rfl) rfl ?_
        refine A_goto (q := 48) X dX9_runScript_103 rfl ?_
        exact AW.loc (sS rfl (sS rfl (sS rfl (sN (sZ rfl (by omega) (sN sE)))))) (ih (i + 1) (cmdL ((g : Nat) : Int) t) _ (by omega) (by omega) hTb (Gd_cmd _ hgd) hR9b hOb hScb (by rw [show nq - (i + 1) = r by omega, ← hA]; exact (scr_yes hge hb94).symm) (fun k n0 n1 n2 n3 n4 n5 => ((hfb k (by omega) (by omega) (by omega) (by omega) (by omega) (by omega)).trans (hf0 k n0 n1 n2 n3 n4 n5))))
      · refine A_iload (q := 99) X dX9_runScript_97 rfl rfl ?_
        exact A_ireturn X dX9_runScript_99 ⟨by rw [← hA, scr_no hge hb94]; exact congrArg zI (by omega), hTb.mr, hR9b, hOb, hScb, (fun k n0 n1 n2 n3 n4 n5 => ((hfb k (by omega) (by omega) (by omega) (by omega) (by omega) (by omega)).trans (hf0 k n0 n1 n2 n3 n4 n5)))⟩
set_option maxRecDepth 100000 in
set_option maxHeartbeats 4000000 in
theorem c_X9_runScript {l : Launch} {G : Gm} {c : HP} {tm x : List Int} {hs : List (List Int)} {s0 s1 : List Int} {o : List (Int × Int)} {sd : Int64} {n : Int} {q : Int64} (hG : injG G) (hnr : rg n) (hW : WM G c (tm, x, hs, s0, s1, o, sd)) : AMet l G yX9_runScript cX9_runScript 6 ((some .int)) (rmR 6 144) [.ref (G.1 55), .int (zI n), .long (q)] c (Qi (fun v c' => v = zI (fScript n q (tm, x, hs, s0, s1, o, sd)).1 ∧ WM G c' (fScript n q (tm, x, hs, s0, s1, o, sd)).2 ∧ (∀ k, k < 55 → c' k = c k))) := by
  refine AMet.of (vl := [some (.ref (G.1 55)), some (.int (zI n)), some (.long (q)), none]) (by decide) hG (Nat.le_of_ble_eq_true rfl) rfl ?_
  intro K X
  have X : Fx l G K cX9_runScript 6 RX9 ((some .int)) (rmR 6 144) := X
  obtain ⟨hN, ⟨th, tw, pk, h55, htw⟩, hX, hT, hgd, hR8, hR9, hO, hH, hV, hB, hSc, hWd⟩ := hW
  dsimp only at h55 hX hT hgd hH hV hB
  have hl0 := hT.len
  have hxl := hX.1
  have hhl := hH.1
  have hol := hB.1
  refine A_aload_n (q := 1) X dX9_runScript_0 rfl rfl ?_
  refine A_iconst (q := 2) X dX9_runScript_1 rfl ?_
  refine A_putf (q := 5) X pX9_59 dX9_runScript_2 (by omega) h55 (Nat.le_of_ble_eq_true rfl) rfl rfl rfl ?_
  refine A_iload_n (q := 6) X dX9_runScript_5 rfl rfl ?_
  refine A_i2l (q := 7) X dX9_runScript_6 rfl ?_
  refine A_lconst (q := 8) (v := 1) X dX9_runScript_7 rfl rfl ?_
  refine A_ldc2 (q := 11) X dX9_runScript_8 nX9_189 rfl ?_
  refine A_S3i (q := 14) X (c_inZ (a := n) (b := 1) (d := 4) hG rfl (by decide) (by decide) (by omega) (by omega) (by omega)) mX9_in kX9_114 dX9_runScript_11 (by decide) (Nat.le_of_ble_eq_true rfl) rfl (fun vq_3 cq_2 hq_1 => ?_)
  obtain ⟨rfl, hq_1⟩ := hq_1
  obtain rfl := hq_1.symm
  refine A_beq (q := 17) (t := 31) X dX9_runScript_14 rfl rfl (fun hb14 => ?_) (fun hb14 => ?_)
  · refine A_bipush (q := 33) X dX9_runScript_31 (by decide) rfl ?_
    have e9 : fScript n q (tm, x, hs, s0, s1, o, sd) = (-2, (tm, x, hs, s0, s1, o, sd)) := by exact fScr_n (by omega)
    exact A_ireturn X dX9_runScript_33 ⟨by rw [e9], by rw [e9]; exact ⟨hN, ⟨_, _, _, lk_eq, htw⟩, (hX.keep (lk_ne (by omega) rfl)), (hT.keep (lk_ne (by omega) rfl)), hgd, (hR8.keep (lk_ne (by omega) rfl)), (hR9.keep (lk_ne (by omega) rfl)), (hO.keep (lk_ne (by omega) rfl)), (hH.keep (lk_ne (by omega) rfl)), (hV.keep (lk_ne (by omega) rfl) (lk_ne (by omega) rfl)), (hB.keep (lk_ne (by omega) rfl) (lk_ne (by omega) rfl)), (hSc.keep (lk_ne (by omega) rfl) (lk_ne (by omega) rfl) (lk_ne (by omega) rfl)), (hWd.keep (lk_ne (by omega) rfl) (lk_ne (by omega) rfl) (lk_ne (by omega) rfl))⟩, (fun k n0 => (lk_ne (by omega) rfl))⟩
  · obtain ⟨nn, rfl⟩ : ∃ nn : Nat, n = ((nn : Nat) : Int) := ⟨n.toNat, by omega⟩
    refine A_lload_n (q := 18) X dX9_runScript_17 rfl rfl ?_
    refine A_lconst (q := 19) (v := 0) X dX9_runScript_18 rfl rfl ?_
    refine A_iload_n (q := 20) X dX9_runScript_19 rfl rfl ?_
    refine A_S1l (q := 23) X (c_X9_thousands (nq := (nn)) hG (by omega)) mX9_thousands kX9_197 dX9_runScript_20 (by decide) (Nat.le_of_ble_eq_true rfl) rfl (fun vq_6 cq_5 hq_4 => ?_)
    obtain ⟨rfl, hq_4⟩ := hq_4
    obtain rfl := hq_4.symm
    refine A_lconst (q := 24) (v := 1) X dX9_runScript_23 rfl rfl ?_
    refine A_lsub (q := 25) X dX9_runScript_24 rfl ?_
    refine A_S3i (q := 28) X (c_X9_in hG) mX9_in kX9_114 dX9_runScript_25 (by decide) (Nat.le_of_ble_eq_true rfl) rfl (fun vq_9 cq_8 hq_7 => ?_)
    obtain ⟨rfl, hq_7⟩ := hq_7
    obtain rfl := hq_7.symm
    refine A_bne (q := 31) (t := 34) X dX9_runScript_28 rfl rfl (fun hb28 => ?_) (fun hb28 => ?_)
    · obtain ⟨m, hm, rfl, hmz0⟩ := scr_in (by omega) hb28
      refine A_aload_n (q := 35) X dX9_runScript_34 rfl rfl ?_
      refine A_getf (q := 38) X fX9_13 dX9_runScript_35 (by omega) lk_eq rfl rfl ?_
      refine A_aload_n (q := 39) X dX9_runScript_38 rfl rfl ?_
      refine A_getf (q := 42) X fX9_16 dX9_runScript_39 (by omega) lk_eq rfl rfl ?_
      refine A_S2v (q := 45) X (c_assign hG (hT.keep (lk_ne (by omega) rfl)) (hR8.keep (lk_ne (by omega) rfl)) (by decide)) mX9_assign kX9_100 dX9_runScript_42 (by decide) (Nat.le_of_ble_eq_true rfl) rfl (fun cq_11 hq_10 => ?_)
      obtain ⟨hW8, hfw⟩ := hq_10
      refine A_iconst (q := 46) X dX9_runScript_45 rfl ?_
      refine A_istore (q := 48) X dX9_runScript_46 (by decide) (okP_n rfl) rfl ?_
      have e9 : fScript ((nn : Nat) : Int) (lN m) (tm, x, hs, s0, s1, o, sd) = (scr m nn nn tm, (tm, x, hs, s0, s1, o, sd)) := fScr_y (by omega) hm hmz0
      refine AW.loc (sS rfl (sS rfl (sS rfl (sN (sZ rfl rfl (sN sE)))))) (AW.mono (lp_X9_runScript (nq := nn) X hG hN (((hfw _ (by omega)).trans lk_eq)) hm (by omega) _ 0 tm _ (Nat.lt_succ_self _) (Nat.zero_le _) hW8 hgd (hR9.keep ((hfw 59 (by omega)).trans (lk_ne (by omega) rfl))) (hO.keep ((hfw 60 (by omega)).trans (lk_ne (by omega) rfl))) (hSc.keep ((hfw 66 (by omega)).trans (lk_ne (by omega) rfl)) ((hfw 67 (by omega)).trans (lk_ne (by omega) rfl)) ((hfw 68 (by omega)).trans (lk_ne (by omega) rfl))) rfl (fun _ _ _ _ _ _ _ => rfl)) ?_)
      rintro r c9 ⟨v9, hv9, rfl, hR89, hR99, hO9, hSc9, hf9⟩
      exact ⟨_, hv9, by rw [e9]; rfl, by rw [e9]; exact ⟨hN, ⟨_, _, _, ((hf9 _ (by omega) (by omega) (by omega) (by omega) (by omega) (by omega)).trans ((hfw _ (by omega)).trans lk_eq)), htw⟩, (hX.keep ((hf9 56 (by omega) (by omega) (by omega) (by omega) (by omega) (by omega)).trans ((hfw 56 (by omega)).trans (lk_ne (by omega) rfl)))), (hT.keep ((hf9 57 (by omega) (by omega) (by omega) (by omega) (by omega) (by omega)).trans ((hfw 57 (by omega)).trans (lk_ne (by omega) rfl)))), hgd, hR89, hR99, hO9, (hH.keep ((hf9 61 (by omega) (by omega) (by omega) (by omega) (by omega) (by omega)).trans ((hfw 61 (by omega)).trans (lk_ne (by omega) rfl)))), (hV.keep ((hf9 62 (by omega) (by omega) (by omega) (by omega) (by omega) (by omega)).trans ((hfw 62 (by omega)).trans (lk_ne (by omega) rfl))) ((hf9 63 (by omega) (by omega) (by omega) (by omega) (by omega) (by omega)).trans ((hfw 63 (by omega)).trans (lk_ne (by omega) rfl)))), (hB.keep ((hf9 64 (by omega) (by omega) (by omega) (by omega) (by omega) (by omega)).trans ((hfw 64 (by omega)).trans (lk_ne (by omega) rfl))) ((hf9 65 (by omega) (by omega) (by omega) (by omega) (by omega) (by omega)).trans ((hfw 65 (by omega)).trans (lk_ne (by omega) rfl)))), hSc9, (hWd.keep ((hf9 69 (by omega) (by omega) (by omega) (by omega) (by omega) (by omega)).trans ((hfw 69 (by omega)).trans (lk_ne (by omega) rfl))) ((hf9 70 (by omega) (by omega) (by omega) (by omega) (by omega) (by omega)).trans ((hfw 70 (by omega)).trans (lk_ne (by omega) rfl))) ((hf9 71 (by omega) (by omega) (by omega) (by omega) (by omega) (by omega)).trans ((hfw 71 (by omega)).trans (lk_ne (by omega) rfl))))⟩, (fun k n0 => ((hf9 k (by omega) (by omega) (by omega) (by omega) (by omega) (by omega)).trans ((hfw k (by omega)).trans (lk_ne (by omega) rfl))))⟩
    · refine A_bipush (q := 33) X dX9_runScript_31 (by decide) rfl ?_
      have e9 : fScript ((nn : Nat) : Int) q (tm, x, hs, s0, s1, o, sd) = (-2, (tm, x, hs, s0, s1, o, sd)) := by exact scr_out (by omega) hb28
      exact A_ireturn X dX9_runScript_33 ⟨by rw [e9], by rw [e9]; exact ⟨hN, ⟨_, _, _, lk_eq, htw⟩, (hX.keep (lk_ne (by omega) rfl)), (hT.keep (lk_ne (by omega) rfl)), hgd, (hR8.keep (lk_ne (by omega) rfl)), (hR9.keep (lk_ne (by omega) rfl)), (hO.keep (lk_ne (by omega) rfl)), (hH.keep (lk_ne (by omega) rfl)), (hV.keep (lk_ne (by omega) rfl) (lk_ne (by omega) rfl)), (hB.keep (lk_ne (by omega) rfl) (lk_ne (by omega) rfl)), (hSc.keep (lk_ne (by omega) rfl) (lk_ne (by omega) rfl) (lk_ne (by omega) rfl)), (hWd.keep (lk_ne (by omega) rfl) (lk_ne (by omega) rfl) (lk_ne (by omega) rfl))⟩, (fun k n0 => (lk_ne (by omega) rfl))⟩
