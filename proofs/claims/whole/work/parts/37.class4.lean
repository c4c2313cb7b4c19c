/-! THE CLASS: free variables, possible strategies -/
theorem runT_add (s : Int) : ∀ (i : Nat) (l : List Int), (runT s (i + 1) l).1 = (runT s 1 (runT s i l).1).1
  | 0, l => rfl
  | i + 1, l => by
    cases h : stepT s l with
    | none =>
      rw [runT_none h, runT_none h]
      show l = (runT s 1 l).1
      rw [runT_none h]
    | some l' =>
      rw [runT_some h, runT_some h]
      exact runT_add s i l'
abbrev hold (l : List Int) (o : List (Int × Int)) (s : Int) : Prop := ∀ q ∈ o, (((runT s q.1.toNat l).1.length : Nat) : Int) = q.2
theorem gL_ge : ∀ (o : List (Int × Int)) (m : Int), m ≤ gL o m ∧ ∀ q ∈ o, q.1 ≤ gL o m
  | [], m => ⟨Int.le_refl m, fun q h => by cases h⟩
  | p :: o, m => by
    obtain ⟨h1, h2⟩ := gL_ge o (max m p.1)
    have e : gL (p :: o) m = gL o (max m p.1) := rfl
    rw [e]
    refine ⟨by omega, fun q h => ?_⟩
    rcases List.mem_cons.mp h with e | e
    · rw [e]; omega
    · exact h2 q e
theorem gL_le {M : Int} : ∀ (o : List (Int × Int)) (m : Int), m ≤ M → (∀ q ∈ o, q.1 ≤ M) → gL o m ≤ M
  | [], m, h, _ => h
  | p :: o, m, h, h2 => gL_le o (max m p.1) (by have := h2 p List.mem_cons_self; omega) (fun q hq => h2 q (List.mem_cons_of_mem _ hq))
def psB (l : List Int) (o : List (Int × Int)) : Nat → Int32
  | 0 => zI 0
  | n + 1 => if hold l o ((n : Nat) : Int) then psB l o n ||| (zI 1 <<< (zI ((n : Nat) : Int) &&& 31)) else psB l o n
set_option maxRecDepth 100000 in
set_option maxHeartbeats 4000000 in
theorem lp_X8_freeVariables {l : Launch} {G : Gm} {K : Cx} {c : HP} {T1 : List Int × Int} {E D : Nat → Int} {sd : Int64} {R : HP → Prop} (X : Fx l G K cX8_freeVariables 4 RX8 ((some .int)) (rmR 3 66)) (hG : injG G) (hN : G.2.1 = 72) (h0 : c 0 = .inr (8, [.ref (G.1 1), .ref (G.1 3), .ref (G.1 5), .ref (G.1 7), .ref (G.1 9), .ref (G.1 11), .ref (G.1 14), .ref (G.1 23), .ref (G.1 33), .ref (G.1 36), .ref (G.1 38), .long sd])) (hT1 : Tm G c 1 2 T1) (hgd : Gd T1.1) (hO : Ol G c 11 12 13 T1.1.length E D) (hD : ∀ j, j < T1.1.length → D j = (dp T1.1 j : Nat)) (hfin : R c) : ∀ (n : Nat) (i : Nat), T1.1.length - i < n → i ≤ T1.1.length → AW G K (Qi (fun v c' => v = fvB T1.1 T1.1.length ∧ R c')) 15 (mkL [some (.ref (G.1 0)), some (.int (fvB T1.1 i)), some (.int (zI ((i : Nat) : Int))), none]) [] c := by
  intro n
  induction n with
  | zero => intro i hmz; exact absurd hmz (Nat.not_lt_zero _)
  | succ n ih =>
    intro i hmz hi
    have hl1 := hT1.len
    refine A_iload_n (q := 16) X dX8_freeVariables_15 rfl rfl ?_
    refine A_aload_n (q := 17) X dX8_freeVariables_16 rfl rfl ?_
    refine A_getf (q := 20) X fX8_10 dX8_freeVariables_17 (by omega) h0 rfl rfl ?_
    refine A_V0i (q := 23) X (c_X6_length hG hT1) mX6_length kX8_100 dX8_freeVariables_20 (by omega) hT1.cell rfl (by decide) (Nat.le_of_ble_eq_true rfl) rfl (fun vq_3 cq_2 hq_1 => ?_)
    obtain ⟨rfl, hq_1⟩ := hq_1
    obtain rfl := hq_1.symm
    refine A_icmp_ge (q := 26) (t := 74) X dX8_freeVariables_23 (by omega) (by omega) rfl rfl (fun hb23 => ?_) (fun hb23 => ?_)
    · refine A_iload_n (q := 75) X dX8_freeVariables_74 rfl rfl ?_
      exact A_ireturn X dX8_freeVariables_75 ⟨by rw [show i = T1.1.length by omega], hfin⟩
    · refine A_aload_n (q := 27) X dX8_freeVariables_26 rfl rfl ?_
      refine A_getf (q := 30) X fX8_10 dX8_freeVariables_27 (by omega) h0 rfl rfl ?_
      refine A_iload_n (q := 31) X dX8_freeVariables_30 rfl rfl ?_
      refine A_V1i (q := 34) X (c_X6_token hG hT1 (by omega)) mX6_token kX8_104 dX8_freeVariables_31 (by omega) hT1.cell rfl (by decide) (Nat.le_of_ble_eq_true rfl) rfl (fun vq_6 cq_5 hq_4 => ?_)
      obtain ⟨rfl, hq_4⟩ := hq_4
      obtain rfl := hq_4.symm
      rw [tokA_in (by omega)]
      have htk := hgd.at (i := i) (by omega)
      have hdl := dp_le T1.1 i
      refine A_aload_n (q := 35) X dX8_freeVariables_34 rfl rfl ?_
      refine A_getf (q := 38) X fX8_31 dX8_freeVariables_35 (by omega) h0 rfl rfl ?_
      refine A_iload_n (q := 39) X dX8_freeVariables_38 rfl rfl ?_
      refine A_V1i (q := 42) X (c_X4_depthAt hG hO (by omega)) mX4_depthAt kX8_111 dX8_freeVariables_39 (by omega) hO.cell rfl (by decide) (Nat.le_of_ble_eq_true rfl) rfl (fun vq_9 cq_8 hq_7 => ?_)
      obtain ⟨rfl, hq_7⟩ := hq_7
      obtain rfl := hq_7.symm
      rw [olD_in hD rfl (by omega)]
      refine A_isub (q := 43) X dX8_freeVariables_42 rfl ?_
      refine A_istore_n (q := 44) X dX8_freeVariables_43 (by decide) (okP_s rfl rfl) rfl ?_
      refine A_aload_n (q := 45) X dX8_freeVariables_44 rfl rfl ?_
      refine A_getf (q := 48) X fX8_10 dX8_freeVariables_45 (by omega) h0 rfl rfl ?_
      refine A_iload_n (q := 49) X dX8_freeVariables_48 rfl rfl ?_
      refine A_V1i (q := 52) X (c_X6_token hG hT1 (by omega)) mX6_token kX8_104 dX8_freeVariables_49 (by omega) hT1.cell rfl (by decide) (Nat.le_of_ble_eq_true rfl) rfl (fun vq_12 cq_11 hq_10 => ?_)
      obtain ⟨rfl, hq_10⟩ := hq_10
      obtain rfl := hq_10.symm
      rw [tokA_in (by omega)]
      refine A_S1i (q := 55) X (c_X8_isVariable hG (by omega)) mX8_isVariable kX8_125 dX8_freeVariables_52 (by decide) (Nat.le_of_ble_eq_true rfl) rfl (fun vq_15 cq_14 hq_13 => ?_)
      obtain ⟨rfl, hq_13⟩ := hq_13
      obtain rfl := hq_13.symm
      refine A_beq (q := 58) (t := 68) X dX8_freeVariables_55 rfl rfl (fun hb55 => ?_) (fun hb55 => ?_)
      · refine A_iinc (q := 71) X dX8_freeVariables_68 rfl (by decide) (okP_s rfl rfl) rfl ?_
        refine A_goto (q := 15) X dX8_freeVariables_71 rfl ?_
        have ef : fvB T1.1 (i + 1) = fvB T1.1 i := by show (if _ then _ else _) = _; rw [if_neg (by omega)]
        exact AW.loc (sS rfl (sS (by rw [ef]; rfl) (sZ rfl (by omega) (sN sE)))) (ih (i + 1) (by omega) (by omega))
      · refine A_iload_n (q := 59) X dX8_freeVariables_58 rfl rfl ?_
        refine A_if_lt (q := 62) (t := 68) X dX8_freeVariables_59 (by omega) rfl rfl (fun hb59 => ?_) (fun hb59 => ?_)
        · refine A_iinc (q := 71) X dX8_freeVariables_68 rfl (by decide) (okP_s rfl rfl) rfl ?_
          refine A_goto (q := 15) X dX8_freeVariables_71 rfl ?_
          have ef : fvB T1.1 (i + 1) = fvB T1.1 i := by show (if _ then _ else _) = _; rw [if_neg (by omega)]
          exact AW.loc (sS rfl (sS (by rw [ef]; rfl) (sZ rfl (by omega) (sN sE)))) (ih (i + 1) (by omega) (by omega))
        · refine A_iload_n (q := 63) X dX8_freeVariables_62 rfl rfl ?_
          refine A_iconst (q := 64) X dX8_freeVariables_63 rfl ?_
          refine A_iload_n (q := 65) X dX8_freeVariables_64 rfl rfl ?_
          refine A_ishl (q := 66) X dX8_freeVariables_65 rfl ?_
          refine A_ior (q := 67) X dX8_freeVariables_66 rfl ?_
          refine A_istore_n (q := 68) X dX8_freeVariables_67 (by decide) (okP_s rfl rfl) rfl ?_
          refine A_iinc (q := 71) X dX8_freeVariables_68 rfl (by decide) (okP_s rfl rfl) rfl ?_
          refine A_goto (q := 15) X dX8_freeVariables_71 rfl ?_
          have ef : fvB T1.1 (i + 1) = fvB T1.1 i ||| (zI 1 <<< (zI (T1.1.getD i 0 - ((dp T1.1 i : Nat) : Int)) &&& 31)) := by show (if _ then _ else _) = _; rw [if_pos (by omega)]
          exact AW.loc (sS rfl (sS (by rw [ef]; rfl) (sZ rfl (by omega) (sN sE)))) (ih (i + 1) (by omega) (by omega))
set_option maxRecDepth 100000 in
set_option maxHeartbeats 4000000 in
theorem c_X8_freeVariables {l : Launch} {G : Gm} {c : HP} {tm x : List Int} {hs : List (List Int)} {s0 s1 : List Int} {o : List (Int × Int)} {sd : Int64} (hG : injG G) (hW : WX G c (tm, x, hs, s0, s1, o, sd)) : AMet l G yX8_freeVariables cX8_freeVariables 4 ((some .int)) (rmR 3 66) [.ref (G.1 0)] c (Qi (fun v c' => v = fvB tm tm.length ∧ WX G c' (tm, x, hs, s0, s1, o, sd) ∧ (∀ k, 55 ≤ k → c' k = c k))) := by
  refine AMet.of (vl := [some (.ref (G.1 0))]) (by decide) hG (Nat.le_of_ble_eq_true rfl) rfl ?_
  intro K X
  have X : Fx l G K cX8_freeVariables 4 RX8 ((some .int)) (rmR 3 66) := X
  obtain ⟨hN, h0, ⟨T1, hT1, eT1, z1⟩, hgd, ⟨T3, hT3⟩, ⟨T5, hT5⟩, ⟨T7, hT7, eT7, z7⟩, hg7, ⟨T9, hT9, eT9, z9⟩, hg9, ⟨n11, E11, D11, hO11⟩, hRd, ⟨P0, Q0, X0, ap0, pk0, hM⟩, hH, hX, hB⟩ := hW
  dsimp only at h0 eT1 hgd eT7 hg7 eT9 hg9 hH hX hB
  subst eT1 eT7 eT9
  obtain ⟨p33, h33⟩ := hH.cell
  have hl1 := hT1.len
  have hl7 := hT7.len
  have hl9 := hT9.len
  have hxl := hX.2.1
  refine A_aload_n (q := 1) X dX8_freeVariables_0 rfl rfl ?_
  refine A_getf (q := 4) X fX8_31 dX8_freeVariables_1 (by omega) h0 rfl rfl ?_
  refine A_aload_n (q := 5) X dX8_freeVariables_4 rfl rfl ?_
  refine A_getf (q := 8) X fX8_10 dX8_freeVariables_5 (by omega) h0 rfl rfl ?_
  refine A_V1v (q := 11) X (c_X4_measure hG hgd (by omega) (by omega) (by omega) (by omega) (by omega) (by omega) hT1 hO11) mX4_measure kX8_108 dX8_freeVariables_8 (by omega) hO11.cell rfl (by decide) (Nat.le_of_ble_eq_true rfl) rfl (fun cq_2 hq_1 => ?_)
  obtain ⟨E_3, D_4, hO_5, hE_6, hD_7, hf_8⟩ := hq_1
  refine A_iconst (q := 12) X dX8_freeVariables_11 rfl ?_
  refine A_istore_n (q := 13) X dX8_freeVariables_12 (by decide) (okP_s rfl rfl) rfl ?_
  refine A_iconst (q := 14) X dX8_freeVariables_13 rfl ?_
  refine A_istore_n (q := 15) X dX8_freeVariables_14 (by decide) (okP_s rfl rfl) rfl ?_
  exact AW.loc (sS rfl (sS rfl (sZ rfl (by omega) (sN sE)))) (lp_X8_freeVariables (R := fun c9 => WX G c9 (T1.1, x, hs, T7.1, T9.1, o, sd) ∧ (∀ k, 55 ≤ k → c9 k = c k)) X hG hN ((hf_8 _ (by omega) (by omega) (by omega)).trans h0) (hT1.keep ((hf_8 1 (by omega) (by omega) (by omega)).trans rfl) ((hf_8 2 (by omega) (by omega) (by omega)).trans rfl)) hgd hO_5 hD_7 ⟨⟨hN, ((hf_8 _ (by omega) (by omega) (by omega)).trans h0), ⟨_, (hT1.keep ((hf_8 1 (by omega) (by omega) (by omega)).trans rfl) ((hf_8 2 (by omega) (by omega) (by omega)).trans rfl)), rfl, z1⟩, hgd, ⟨_, (hT3.keep ((hf_8 3 (by omega) (by omega) (by omega)).trans rfl) ((hf_8 4 (by omega) (by omega) (by omega)).trans rfl))⟩, ⟨_, (hT5.keep ((hf_8 5 (by omega) (by omega) (by omega)).trans rfl) ((hf_8 6 (by omega) (by omega) (by omega)).trans rfl))⟩, ⟨_, (hT7.keep ((hf_8 7 (by omega) (by omega) (by omega)).trans rfl) ((hf_8 8 (by omega) (by omega) (by omega)).trans rfl)), rfl, z7⟩, hg7, ⟨_, (hT9.keep ((hf_8 9 (by omega) (by omega) (by omega)).trans rfl) ((hf_8 10 (by omega) (by omega) (by omega)).trans rfl)), rfl, z9⟩, hg9, ⟨_, _, _, hO_5⟩, (hRd.keep (fun k r0 r1 => ((hf_8 k (by omega) (by omega) (by omega)).trans rfl))), ⟨_, _, _, _, _, (hM.keep (fun k r0 r1 => ((hf_8 k (by omega) (by omega) (by omega)).trans rfl)))⟩, (hH.keep (fun k r0 => ((hf_8 k (by omega) (by omega) (by omega)).trans rfl))), (hX.keep ((hf_8 36 (by omega) (by omega) (by omega)).trans rfl) ((hf_8 37 (by omega) (by omega) (by omega)).trans rfl)), (hB.keep ((hf_8 38 (by omega) (by omega) (by omega)).trans rfl) ((hf_8 39 (by omega) (by omega) (by omega)).trans rfl) ((hf_8 40 (by omega) (by omega) (by omega)).trans rfl))⟩, (fun k n0 => ((hf_8 k (by omega) (by omega) (by omega)).trans rfl))⟩ _ 0 (Nat.lt_succ_self _) (Nat.zero_le _))
set_option maxRecDepth 100000 in
set_option maxHeartbeats 4000000 in
theorem lp_X8_observationsHold {l : Launch} {G : Gm} {K : Cx} {c0 : HP} {T1 : List Int × Int} {o : List (Int × Int)} {sd : Int64} {s : Int} (X : Fx l G K cX8_observationsHold 4 RX8 ((some .boolean)) (rmR 5 130)) (hG : injG G) (hN : G.2.1 = 72) (h00 : c0 0 = .inr (8, [.ref (G.1 1), .ref (G.1 3), .ref (G.1 5), .ref (G.1 7), .ref (G.1 9), .ref (G.1 11), .ref (G.1 14), .ref (G.1 23), .ref (G.1 33), .ref (G.1 36), .ref (G.1 38), .long sd])) (hgd : Gd T1.1) (hB0 : Ob G c0 o) (hsr : rg s) (hgl : 0 ≤ gL o 0 ∧ gL o 0 ≤ 50) : ∀ (n : Nat) (i : Nat) (T3 : List Int × Int) (c : HP), 60 - i < n → i ≤ 51 → Tm G c 3 4 T3 → T3.2 = 0 → Gd T3.1 → (i = 0 → T3.1 = T1.1) → (0 < i → T3.1 = (runT s (i - 1) T1.1).1) → Rd G c → (∀ q ∈ o, q.1 < ((i : Nat) : Int) → (((runT s q.1.toNat T1.1).1.length : Nat) : Int) = q.2) → (∀ k, k < 14 ∨ 22 < k → k ≠ 3 → k ≠ 4 → c k = c0 k) → AW G K (Qi (fun v c' => v = zI (if hold T1.1 o s then 1 else 0) ∧ (∃ T, Tm G c' 3 4 T) ∧ Rd G c' ∧ (∀ k, k < 14 ∨ 22 < k → k ≠ 3 → k ≠ 4 → c' k = c0 k))) 26 (mkL [some (.ref (G.1 0)), some (.int (zI s)), some (.int (zI (gL o 0))), some (.int (zI ((i : Nat) : Int)))]) [] c := by
  intro n
  induction n with
  | zero => intro i T3 c hmz; exact absurd hmz (Nat.not_lt_zero _)
  | succ n ih =>
    intro i T3 c hmz hi hT3 z3 hg3 hT30 hT3e hRd hdone hf0
    have h0 := (hf0 0 (by omega) (by omega) (by omega)).trans h00
    have hB := hB0.keep (hf0 38 (by omega) (by omega) (by omega)) (hf0 39 (by omega) (by omega) (by omega)) (hf0 40 (by omega) (by omega) (by omega))
    have hl3 := hT3.len
    refine A_iload_n (q := 27) X dX8_observationsHold_26 rfl rfl ?_
    refine A_iload_n (q := 28) X dX8_observationsHold_27 rfl rfl ?_
    refine A_icmp_gt (q := 31) (t := 75) X dX8_observationsHold_28 (by omega) (by omega) rfl rfl (fun hb28 => ?_) (fun hb28 => ?_)
    · refine A_iconst (q := 76) X dX8_observationsHold_75 rfl ?_
      refine A_zreturn X dX8_observationsHold_76 (by decide) ⟨zb1 (fun q hq => ?_), ⟨_, hT3⟩, hRd, (fun k n0 n1 n2 => (hf0 k n0 n1 n2))⟩
      have hq1 := (gL_ge o 0).2 q hq
      have hq2 := hB0.2.2.1 q hq
      exact hdone q hq (by omega)
    · refine A_iload_n (q := 32) X dX8_observationsHold_31 rfl rfl ?_
      refine A_if_le (q := 35) (t := 49) X dX8_observationsHold_32 (by omega) rfl rfl (fun hb32 => ?_) (fun hb32 => ?_)
      · have ei : i = 0 := by omega
        subst ei
        have hT3y := hT3
        have e3y : T3 = ((runT s 0 T1.1).1, 0) := by rw [← hT30 rfl]; exact Prod.ext rfl z3
        rw [e3y] at hT3y
        have hgy := Gd_run s 0 _ hgd
        have hly := hgy.1
        refine A_aload_n (q := 50) X dX8_observationsHold_49 rfl rfl ?_
        refine A_getf (q := 53) X fX8_66 dX8_observationsHold_50 (by omega) h0 rfl rfl ?_
        refine A_iload_n (q := 54) X dX8_observationsHold_53 rfl rfl ?_
        refine A_aload_n (q := 55) X dX8_observationsHold_54 rfl rfl ?_
        refine A_getf (q := 58) X fX8_16 dX8_observationsHold_55 (by omega) h0 rfl rfl ?_
        refine A_V0i (q := 61) X (c_X6_length hG hT3y) mX6_length kX8_100 dX8_observationsHold_58 (by omega) hT3y.cell rfl (by decide) (Nat.le_of_ble_eq_true rfl) rfl (fun vq_3 cq_2 hq_1 => ?_)
        obtain ⟨rfl, hq_1⟩ := hq_1
        obtain rfl := hq_1.symm
        show AW G K _ _ _ (.int (zI (((runT s 0 T1.1).1.length : Nat) : Int)) :: _) _
        refine A_V2i (q := 64) X (c_X3_allow hG hN hB (by omega) (by omega)) mX3_allow kX8_232 dX8_observationsHold_61 (by omega) hB.1 rfl (by decide) (Nat.le_of_ble_eq_true rfl) rfl (fun vq_6 cq_5 hq_4 => ?_)
        obtain ⟨rfl, hq_4⟩ := hq_4
        obtain rfl := hq_4.symm
        refine A_bne (q := 67) (t := 69) X dX8_observationsHold_64 rfl rfl (fun hb64 => ?_) (fun hb64 => ?_)
        · refine A_iinc (q := 72) X dX8_observationsHold_69 rfl (by decide) (okP_s rfl rfl) rfl ?_
          refine A_goto (q := 26) X dX8_observationsHold_72 rfl ?_
          exact AW.loc (sS rfl (sS rfl (sS rfl (sZ rfl (by omega) sE)))) (ih (0 + 1) ((runT s 0 T1.1).1, 0) _ (by omega) (by omega) hT3y rfl hgy (fun h => absurd h (by omega)) (fun _ => by rw [Nat.add_sub_cancel]) hRd (fun q hq hlt => by by_cases e : q.1 = ((0 : Nat) : Int); (have := hb64 q hq e; rw [show q.1.toNat = 0 by omega]; exact this.symm); exact hdone q hq (by omega)) (fun k n0 n1 n2 => (hf0 k n0 n1 n2)))
        · refine A_iconst (q := 68) X dX8_observationsHold_67 rfl ?_
          refine A_zreturn X dX8_observationsHold_68 (by decide) ⟨zb0 (fun hh => hb64 (fun q hq he => ?_)), ⟨_, hT3y⟩, hRd, (fun k n0 n1 n2 => (hf0 k n0 n1 n2))⟩
          have := hh q hq
          rw [show q.1.toNat = 0 by omega] at this
          exact this.symm
      · refine A_aload_n (q := 36) X dX8_observationsHold_35 rfl rfl ?_
        refine A_getf (q := 39) X fX8_38 dX8_observationsHold_36 (by omega) h0 rfl rfl ?_
        refine A_aload_n (q := 40) X dX8_observationsHold_39 rfl rfl ?_
        refine A_getf (q := 43) X fX8_16 dX8_observationsHold_40 (by omega) h0 rfl rfl ?_
        refine A_iload_n (q := 44) X dX8_observationsHold_43 rfl rfl ?_
        refine A_iconst (q := 45) X dX8_observationsHold_44 rfl ?_
        refine A_V3i (q := 48) X (c_X5_perform (n0 := 1) hG hN (by omega) (by omega) (by omega) (by omega) hRd hT3 z3 hg3) mX5_perform kX8_138 dX8_observationsHold_45 (by omega) hRd.1 rfl (by decide) (Nat.le_of_ble_eq_true rfl) rfl (fun vq_9 cq_8 hq_7 => ?_)
        obtain ⟨rfl, hT_10, hRd_11, hf_12⟩ := hq_7
        refine A_pop (q := 49) X dX8_observationsHold_48 rfl rfl ?_
        obtain ⟨i2, rfl⟩ : ∃ i2, i = i2 + 1 := ⟨i - 1, by omega⟩
        have hT3y := hT_10
        have e3y : ((runT s 1 T3.1).1, (0 : Int)) = ((runT s (i2 + 1) T1.1).1, 0) := by rw [hT3e (by omega), Nat.add_sub_cancel, ← runT_add]
        rw [e3y] at hT3y
        have hgy := Gd_run s (i2 + 1) _ hgd
        have hly := hgy.1
        refine A_aload_n (q := 50) X dX8_observationsHold_49 rfl rfl ?_
        refine A_getf (q := 53) X fX8_66 dX8_observationsHold_50 (by omega) ((hf_12 _ (by omega) (by omega) (by omega)).trans h0) rfl rfl ?_
        refine A_iload_n (q := 54) X dX8_observationsHold_53 rfl rfl ?_
        refine A_aload_n (q := 55) X dX8_observationsHold_54 rfl rfl ?_
        refine A_getf (q := 58) X fX8_16 dX8_observationsHold_55 (by omega) ((hf_12 _ (by omega) (by omega) (by omega)).trans h0) rfl rfl ?_
        refine A_V0i (q := 61) X (c_X6_length hG hT3y) mX6_length kX8_100 dX8_observationsHold_58 (by omega) hT3y.cell rfl (by decide) (Nat.le_of_ble_eq_true rfl) rfl (fun vq_15 cq_14 hq_13 => ?_)
        obtain ⟨rfl, hq_13⟩ := hq_13
        obtain rfl := hq_13.symm
        show AW G K _ _ _ (.int (zI (((runT s (i2 + 1) T1.1).1.length : Nat) : Int)) :: _) _
        refine A_V2i (q := 64) X (c_X3_allow hG hN (hB.keep ((hf_12 38 (by omega) (by omega) (by omega)).trans rfl) ((hf_12 39 (by omega) (by omega) (by omega)).trans rfl) ((hf_12 40 (by omega) (by omega) (by omega)).trans rfl)) (by omega) (by omega)) mX3_allow kX8_232 dX8_observationsHold_61 (by omega) (hB.keep ((hf_12 38 (by omega) (by omega) (by omega)).trans rfl) ((hf_12 39 (by omega) (by omega) (by omega)).trans rfl) ((hf_12 40 (by omega) (by omega) (by omega)).trans rfl)).1 rfl (by decide) (Nat.le_of_ble_eq_true rfl) rfl (fun vq_18 cq_17 hq_16 => ?_)
        obtain ⟨rfl, hq_16⟩ := hq_16
        obtain rfl := hq_16.symm
        refine A_bne (q := 67) (t := 69) X dX8_observationsHold_64 rfl rfl (fun hb64 => ?_) (fun hb64 => ?_)
        · refine A_iinc (q := 72) X dX8_observationsHold_69 rfl (by decide) (okP_s rfl rfl) rfl ?_
          refine A_goto (q := 26) X dX8_observationsHold_72 rfl ?_
          exact AW.loc (sS rfl (sS rfl (sS rfl (sZ rfl (by omega) sE)))) (ih ((i2 + 1) + 1) ((runT s (i2 + 1) T1.1).1, 0) _ (by omega) (by omega) hT3y rfl hgy (fun h => absurd h (by omega)) (fun _ => by rw [Nat.add_sub_cancel]) hRd_11 (fun q hq hlt => by by_cases e : q.1 = (((i2 + 1) : Nat) : Int); (have := hb64 q hq e; rw [show q.1.toNat = (i2 + 1) by omega]; exact this.symm); exact hdone q hq (by omega)) (fun k n0 n1 n2 => ((hf_12 k (by omega) (by omega) (by omega)).trans (hf0 k n0 n1 n2))))
        · refine A_iconst (q := 68) X dX8_observationsHold_67 rfl ?_
          refine A_zreturn X dX8_observationsHold_68 (by decide) ⟨zb0 (fun hh => hb64 (fun q hq he => ?_)), ⟨_, hT3y⟩, hRd_11, (fun k n0 n1 n2 => ((hf_12 k (by omega) (by omega) (by omega)).trans (hf0 k n0 n1 n2)))⟩
          have := hh q hq
          rw [show q.1.toNat = (i2 + 1) by omega] at this
          exact this.symm
set_option maxRecDepth 100000 in
set_option maxHeartbeats 4000000 in
theorem c_X8_observationsHold {l : Launch} {G : Gm} {c : HP} {T1 T3 : List Int × Int} {o : List (Int × Int)} {sd : Int64} {s : Int} (hG : injG G) (hN : G.2.1 = 72) (h0 : c 0 = .inr (8, [.ref (G.1 1), .ref (G.1 3), .ref (G.1 5), .ref (G.1 7), .ref (G.1 9), .ref (G.1 11), .ref (G.1 14), .ref (G.1 23), .ref (G.1 33), .ref (G.1 36), .ref (G.1 38), .long sd])) (hT1 : Tm G c 1 2 T1) (z1 : T1.2 = 0) (hgd : Gd T1.1) (hT3 : Tm G c 3 4 T3) (hRd : Rd G c) (hB : Ob G c o) (hsr : rg s) : AMet l G yX8_observationsHold cX8_observationsHold 4 ((some .boolean)) (rmR 5 130) [.ref (G.1 0), .int (zI s)] c (Qi (fun v c' => v = zI (if hold T1.1 o s then 1 else 0) ∧ (∃ T, Tm G c' 3 4 T) ∧ Rd G c' ∧ (∀ k, k < 14 ∨ 22 < k → k ≠ 3 → k ≠ 4 → c' k = c k))) := by
  refine AMet.of (vl := [some (.ref (G.1 0)), some (.int (zI s))]) (by decide) hG (Nat.le_of_ble_eq_true rfl) rfl ?_
  intro K X
  have X : Fx l G K cX8_observationsHold 4 RX8 ((some .boolean)) (rmR 5 130) := X
  refine A_aload_n (q := 1) X dX8_observationsHold_0 rfl rfl ?_
  refine A_getf (q := 4) X fX8_16 dX8_observationsHold_1 (by omega) h0 rfl rfl ?_
  refine A_aload_n (q := 5) X dX8_observationsHold_4 rfl rfl ?_
  refine A_getf (q := 8) X fX8_10 dX8_observationsHold_5 (by omega) h0 rfl rfl ?_
  refine A_V1v (q := 11) X (c_X6_copyFrom hG hT3 hT1 (by omega) (by omega) (by omega) (by omega)) mX6_copyFrom kX8_128 dX8_observationsHold_8 (by omega) hT3.cell rfl (by decide) (Nat.le_of_ble_eq_true rfl) rfl (fun cq_2 hq_1 => ?_)
  obtain ⟨hT_3, hf_4⟩ := hq_1
  refine A_aload_n (q := 12) X dX8_observationsHold_11 rfl rfl ?_
  refine A_getf (q := 15) X fX8_66 dX8_observationsHold_12 (by omega) ((hf_4 _ (by omega) (by omega)).trans h0) rfl rfl ?_
  refine A_V0i (q := 18) X (c_X3_greatestLimit hG hN (hB.keep ((hf_4 38 (by omega) (by omega)).trans rfl) ((hf_4 39 (by omega) (by omega)).trans rfl) ((hf_4 40 (by omega) (by omega)).trans rfl))) mX3_greatestLimit kX8_224 dX8_observationsHold_15 (by omega) (hB.keep ((hf_4 38 (by omega) (by omega)).trans rfl) ((hf_4 39 (by omega) (by omega)).trans rfl) ((hf_4 40 (by omega) (by omega)).trans rfl)).1 rfl (by decide) (Nat.le_of_ble_eq_true rfl) rfl (fun vq_7 cq_6 hq_5 => ?_)
  obtain ⟨rfl, hq_5⟩ := hq_5
  obtain rfl := hq_5.symm
  refine A_bipush (q := 20) X dX8_observationsHold_18 (by decide) rfl ?_
  have hgl : 0 ≤ gL o 0 ∧ gL o 0 ≤ 50 := ⟨(gL_ge o 0).1, gL_le o 0 (by omega) (fun q hq => (hB.2.2.1 q hq).1.2)⟩
  refine A_mmin (q := 23) X dX8_observationsHold_20 kX8_227 q_min1 q_math1 q_min2 (by omega) (by decide) (by decide) (Nat.le_of_ble_eq_true rfl) rfl ?_
  rw [show min (gL o 0) 50 = gL o 0 by omega]
  refine A_istore_n (q := 24) X dX8_observationsHold_23 (by decide) (okP_s rfl rfl) rfl ?_
  refine A_iconst (q := 25) X dX8_observationsHold_24 rfl ?_
  refine A_istore_n (q := 26) X dX8_observationsHold_25 (by decide) (okP_s rfl rfl) rfl ?_
  exact AW.loc (sS rfl (sS rfl (sS rfl (sZ rfl (by omega) sE)))) (lp_X8_observationsHold X hG hN h0 hgd hB hsr hgl _ 0 T1 _ (Nat.lt_succ_self _) (by omega) hT_3 z1 hgd (fun _ => rfl) (fun h => absurd h (by omega)) (hRd.keep (fun k r0 r1 => ((hf_4 k (by omega) (by omega)).trans rfl))) (fun q hq hlt => absurd hlt (by have := (hB.2.2.1 q hq).1; omega)) (fun k n0 n1 n2 => ((hf_4 k (by omega) (by omega)).trans rfl)))
set_option maxRecDepth 100000 in
set_option maxHeartbeats 4000000 in
theorem lp_X8_possibleStrategies {l : Launch} {G : Gm} {K : Cx} {c0 : HP} {T1 : List Int × Int} {o : List (Int × Int)} {sd : Int64} (X : Fx l G K cX8_possibleStrategies 3 RX8 ((some .int)) (rmR 6 153)) (hG : injG G) (hN : G.2.1 = 72) (h00 : c0 0 = .inr (8, [.ref (G.1 1), .ref (G.1 3), .ref (G.1 5), .ref (G.1 7), .ref (G.1 9), .ref (G.1 11), .ref (G.1 14), .ref (G.1 23), .ref (G.1 33), .ref (G.1 36), .ref (G.1 38), .long sd])) (hT10 : Tm G c0 1 2 T1) (z1 : T1.2 = 0) (hgd : Gd T1.1) (hB0 : Ob G c0 o) : ∀ (n : Nat) (i : Nat) (T3 : List Int × Int) (c : HP), 4 - i < n → i ≤ 4 → Tm G c 3 4 T3 → Rd G c → (∀ k, k < 14 ∨ 22 < k → k ≠ 3 → k ≠ 4 → c k = c0 k) → AW G K (Qi (fun v c' => v = psB T1.1 o 4 ∧ (∃ T, Tm G c' 3 4 T) ∧ Rd G c' ∧ (∀ k, k < 14 ∨ 22 < k → k ≠ 3 → k ≠ 4 → c' k = c0 k))) 4 (mkL [some (.ref (G.1 0)), some (.int (psB T1.1 o i)), some (.int (zI ((i : Nat) : Int)))]) [] c := by
  intro n
  induction n with
  | zero => intro i T3 c hmz; exact absurd hmz (Nat.not_lt_zero _)
  | succ n ih =>
    intro i T3 c hmz hi hT3 hRd hf0
    have h0 := (hf0 0 (by omega) (by omega) (by omega)).trans h00
    have hT1 := hT10.keep (hf0 1 (by omega) (by omega) (by omega)) (hf0 2 (by omega) (by omega) (by omega))
    have hB := hB0.keep (hf0 38 (by omega) (by omega) (by omega)) (hf0 39 (by omega) (by omega) (by omega)) (hf0 40 (by omega) (by omega) (by omega))
    refine A_iload_n (q := 5) X dX8_possibleStrategies_4 rfl rfl ?_
    refine A_iconst (q := 6) X dX8_possibleStrategies_5 rfl ?_
    refine A_icmp_ge (q := 9) (t := 29) X dX8_possibleStrategies_6 (by omega) (by decide) rfl rfl (fun hb6 => ?_) (fun hb6 => ?_)
    · refine A_iload_n (q := 30) X dX8_possibleStrategies_29 rfl rfl ?_
      exact A_ireturn X dX8_possibleStrategies_30 ⟨by rw [show i = 4 by omega], ⟨T3, hT3⟩, hRd, hf0⟩
    · refine A_aload_n (q := 10) X dX8_possibleStrategies_9 rfl rfl ?_
      refine A_iload_n (q := 11) X dX8_possibleStrategies_10 rfl rfl ?_
      refine A_V1i (q := 14) X (c_X8_observationsHold hG hN h0 hT1 z1 hgd hT3 hRd hB (by omega)) mX8_observationsHold kX8_212 dX8_possibleStrategies_11 (by omega) h0 rfl (by decide) (Nat.le_of_ble_eq_true rfl) rfl (fun vq_3 cq_2 hq_1 => ?_)
      obtain ⟨rfl, ⟨T3b, hT3b⟩, hRdb, hfb⟩ := hq_1
      refine A_beq (q := 17) (t := 23) X dX8_possibleStrategies_14 rfl rfl (fun hb14 => ?_) (fun hb14 => ?_)
      · refine A_iinc (q := 26) X dX8_possibleStrategies_23 rfl (by decide) (okP_s rfl rfl) rfl ?_
        refine A_goto (q := 4) X dX8_possibleStrategies_26 rfl ?_
        have ef : psB T1.1 o (i + 1) = psB T1.1 o i := by show (if _ then _ else _) = _; rw [if_neg hb14]
        exact AW.loc (sS rfl (sS (by rw [ef]; rfl) (sZ rfl (by omega) sE))) (ih (i + 1) T3b _ (by omega) (by omega) hT3b hRdb (fun k n0 n1 n2 => (hfb k n0 n1 n2).trans (hf0 k n0 n1 n2)))
      · refine A_iload_n (q := 18) X dX8_possibleStrategies_17 rfl rfl ?_
        refine A_iconst (q := 19) X dX8_possibleStrategies_18 rfl ?_
        refine A_iload_n (q := 20) X dX8_possibleStrategies_19 rfl rfl ?_
        refine A_ishl (q := 21) X dX8_possibleStrategies_20 rfl ?_
        refine A_ior (q := 22) X dX8_possibleStrategies_21 rfl ?_
        refine A_istore_n (q := 23) X dX8_possibleStrategies_22 (by decide) (okP_s rfl rfl) rfl ?_
        refine A_iinc (q := 26) X dX8_possibleStrategies_23 rfl (by decide) (okP_s rfl rfl) rfl ?_
        refine A_goto (q := 4) X dX8_possibleStrategies_26 rfl ?_
        have ef : psB T1.1 o (i + 1) = psB T1.1 o i ||| (zI 1 <<< (zI ((i : Nat) : Int) &&& 31)) := by show (if _ then _ else _) = _; rw [if_pos hb14]
        exact AW.loc (sS rfl (sS (by rw [ef]; rfl) (sZ rfl (by omega) sE))) (ih (i + 1) T3b _ (by omega) (by omega) hT3b hRdb (fun k n0 n1 n2 => (hfb k n0 n1 n2).trans (hf0 k n0 n1 n2)))
set_option maxRecDepth 100000 in
set_option maxHeartbeats 4000000 in
theorem c_X8_possibleStrategies {l : Launch} {G : Gm} {c : HP} {tm x : List Int} {hs : List (List Int)} {s0 s1 : List Int} {o : List (Int × Int)} {sd : Int64} (hG : injG G) (hW : WX G c (tm, x, hs, s0, s1, o, sd)) : AMet l G yX8_possibleStrategies cX8_possibleStrategies 3 ((some .int)) (rmR 6 153) [.ref (G.1 0)] c (Qi (fun v c' => v = psB tm o 4 ∧ WX G c' (tm, x, hs, s0, s1, o, sd) ∧ (∀ k, 55 ≤ k → c' k = c k))) := by
  refine AMet.of (vl := [some (.ref (G.1 0))]) (by decide) hG (Nat.le_of_ble_eq_true rfl) rfl ?_
  intro K X
  have X : Fx l G K cX8_possibleStrategies 3 RX8 ((some .int)) (rmR 6 153) := X
  obtain ⟨hN, h0, ⟨T1, hT1, eT1, z1⟩, hgd, ⟨T3, hT3⟩, ⟨T5, hT5⟩, ⟨T7, hT7, eT7, z7⟩, hg7, ⟨T9, hT9, eT9, z9⟩, hg9, ⟨n11, E11, D11, hO11⟩, hRd, ⟨P0, Q0, X0, ap0, pk0, hM⟩, hH, hX, hB⟩ := hW
  dsimp only at h0 eT1 hgd eT7 hg7 eT9 hg9 hH hX hB
  subst eT1 eT7 eT9
  obtain ⟨p33, h33⟩ := hH.cell
  have hl1 := hT1.len
  have hl7 := hT7.len
  have hl9 := hT9.len
  have hxl := hX.2.1
  refine A_iconst (q := 1) X dX8_possibleStrategies_0 rfl ?_
  refine A_istore_n (q := 2) X dX8_possibleStrategies_1 (by decide) (okP_s rfl rfl) rfl ?_
  refine A_iconst (q := 3) X dX8_possibleStrategies_2 rfl ?_
  refine A_istore_n (q := 4) X dX8_possibleStrategies_3 (by decide) (okP_s rfl rfl) rfl ?_
  refine AW.loc (sS rfl (sS rfl (sZ rfl (by omega) sE))) (AW.mono (lp_X8_possibleStrategies X hG hN h0 hT1 z1 hgd hB _ 0 T3 c (Nat.lt_succ_self _) (Nat.zero_le _) hT3 hRd (fun _ _ _ _ => rfl)) ?_)
  rintro r c9 ⟨v9, hv9, rfl, ⟨T9x, hT9x⟩, hR9, hf9⟩
  exact ⟨_, hv9, rfl, ⟨hN, ((hf9 _ (by omega) (by omega) (by omega)).trans h0), ⟨_, (hT1.keep ((hf9 1 (by omega) (by omega) (by omega)).trans rfl) ((hf9 2 (by omega) (by omega) (by omega)).trans rfl)), rfl, z1⟩, hgd, ⟨_, hT9x⟩, ⟨_, (hT5.keep ((hf9 5 (by omega) (by omega) (by omega)).trans rfl) ((hf9 6 (by omega) (by omega) (by omega)).trans rfl))⟩, ⟨_, (hT7.keep ((hf9 7 (by omega) (by omega) (by omega)).trans rfl) ((hf9 8 (by omega) (by omega) (by omega)).trans rfl)), rfl, z7⟩, hg7, ⟨_, (hT9.keep ((hf9 9 (by omega) (by omega) (by omega)).trans rfl) ((hf9 10 (by omega) (by omega) (by omega)).trans rfl)), rfl, z9⟩, hg9, ⟨_, _, _, (hO11.keep ((hf9 11 (by omega) (by omega) (by omega)).trans rfl) ((hf9 12 (by omega) (by omega) (by omega)).trans rfl) ((hf9 13 (by omega) (by omega) (by omega)).trans rfl))⟩, hR9, ⟨_, _, _, _, _, (hM.keep (fun k r0 r1 => ((hf9 k (by omega) (by omega) (by omega)).trans rfl)))⟩, (hH.keep (fun k r0 => ((hf9 k (by omega) (by omega) (by omega)).trans rfl))), (hX.keep ((hf9 36 (by omega) (by omega) (by omega)).trans rfl) ((hf9 37 (by omega) (by omega) (by omega)).trans rfl)), (hB.keep ((hf9 38 (by omega) (by omega) (by omega)).trans rfl) ((hf9 39 (by omega) (by omega) (by omega)).trans rfl) ((hf9 40 (by omega) (by omega) (by omega)).trans rfl))⟩, (fun k n0 => ((hf9 k (by omega) (by omega) (by omega)).trans rfl))⟩
