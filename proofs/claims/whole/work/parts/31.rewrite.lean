/-! MACHINE: the rule at a place, a rewriting, the work -/
theorem RsX_0 {T : List Int × Int} {x : List Int} (h : RsX T x) (h2 : T.2 = 0) : T = (x, 0) := by
  rcases h with ⟨-, e⟩ | ⟨e, -⟩
  · rw [← e, ← h2]
  · rw [e] at h2
    exact absurd h2 (by decide)
theorem RsX_1 {T : List Int × Int} {x : List Int} (h : RsX T x) (h2 : ¬ T.2 = 0) : 300 < x.length := by
  rcases h with ⟨e, -⟩ | ⟨-, e⟩
  · exact absurd e h2
  · exact e
def Mc (G : Gm) (c : HP) (P Q : Nat) (X1 : List Int × Int) (ap : Nat → Int) (pk : Int) : Prop := ((P = 24 ∧ Q = 28) ∨ (P = 28 ∧ Q = 24)) ∧ c23 G c P Q pk ∧ Ex G c P (P + 1) (P + 2) (P + 3) X1 ∧ (∃ T, Ex G c Q (Q + 1) (Q + 2) (Q + 3) T) ∧ c 32 = aI G 5 ap
theorem Mc.keep {G : Gm} {c c' : HP} {P Q : Nat} {X1 : List Int × Int} {ap : Nat → Int} {pk : Int} (h : Mc G c P Q X1 ap pk) (e : ∀ k, 23 ≤ k → k ≤ 32 → c' k = c k) : Mc G c' P Q X1 ap pk := by
  obtain ⟨h1, h2, h3, ⟨T, h4⟩, h5⟩ := h
  exact ⟨h1, (e 23 (by omega) (by omega)).trans h2, h3.keep (e _ (by omega) (by omega)) (e _ (by omega) (by omega)) (e _ (by omega) (by omega)) (e _ (by omega) (by omega)), ⟨T, h4.keep (e _ (by omega) (by omega)) (e _ (by omega) (by omega)) (e _ (by omega) (by omega)) (e _ (by omega) (by omega))⟩, (e 32 (by omega) (by omega)).trans h5⟩
set_option maxRecDepth 100000 in
set_option maxHeartbeats 4000000 in
theorem c_X2_peak {l : Launch} {G : Gm} {c : HP} {P Q : Nat} {pk : Int} (hG : injG G) (hN : G.2.1 = 72) (h23 : c23 G c P Q pk) : AMet l G yX2_peak cX2_peak 1 ((some .int)) (rmR 0 0) [.ref (G.1 23)] c (Qi (fun v c' => v = zI pk ∧ c' = c)) := by
  refine AMet.of (vl := [some (.ref (G.1 23))]) (by decide) hG (Nat.le_of_ble_eq_true rfl) rfl ?_
  intro K X
  have X : Fx l G K cX2_peak 1 RX2 ((some .int)) (rmR 0 0) := X
  refine A_aload_n (q := 1) X dX2_peak_0 rfl rfl ?_
  refine A_getf (q := 4) X fX2_25 dX2_peak_1 (by omega) h23 rfl rfl ?_
  exact A_ireturn X dX2_peak_4 ⟨rfl, rfl⟩
set_option maxRecDepth 100000 in
set_option maxHeartbeats 4000000 in
theorem c_X2_applications {l : Launch} {G : Gm} {c : HP} {P Q : Nat} {pk : Int} {ap : Nat → Int} {r : Int} (hG : injG G) (hN : G.2.1 = 72) (h23 : c23 G c P Q pk) (h32 : c 32 = aI G 5 ap) (hr : 0 ≤ r ∧ r ≤ 4) : AMet l G yX2_applications cX2_applications 2 ((some .int)) (rmR 0 0) [.ref (G.1 23), .int (zI r)] c (Qi (fun v c' => v = zI (ap r.toNat) ∧ c' = c)) := by
  refine AMet.of (vl := [some (.ref (G.1 23)), some (.int (zI r))]) (by decide) hG (Nat.le_of_ble_eq_true rfl) rfl ?_
  intro K X
  have X : Fx l G K cX2_applications 2 RX2 ((some .int)) (rmR 0 0) := X
  refine A_iload_n (q := 1) X dX2_applications_0 rfl rfl ?_
  refine A_if_lt (q := 4) (t := 18) X dX2_applications_1 (by omega) rfl rfl (fun hb1 => ?_) (fun hb1 => ?_)
  · exfalso
    omega
  · refine A_iload_n (q := 5) X dX2_applications_4 rfl rfl ?_
    refine A_iconst (q := 6) X dX2_applications_5 rfl ?_
    refine A_icmp_ge (q := 9) (t := 18) X dX2_applications_6 (by omega) (by decide) rfl rfl (fun hb6 => ?_) (fun hb6 => ?_)
    · exfalso
      omega
    · refine A_aload_n (q := 10) X dX2_applications_9 rfl rfl ?_
      refine A_getf (q := 13) X fX2_21 dX2_applications_10 (by omega) h23 rfl rfl ?_
      refine A_iload_n (q := 14) X dX2_applications_13 rfl rfl ?_
      refine A_iald (q := 15) (h := 32) ((r).toNat) X dX2_applications_14 (by omega) h32 (by omega) (by omega) (by decide) rfl ?_
      refine A_goto (q := 19) X dX2_applications_15 rfl ?_
      exact A_ireturn X dX2_applications_19 ⟨rfl, rfl⟩
set_option maxRecDepth 100000 in
set_option maxHeartbeats 4000000 in
theorem c_X2_ruleAt {l : Launch} {G : Gm} {c : HP} {P Q : Nat} {pk : Int} {X1 : List Int × Int} {p : Int} {mg : Prop} {dm : Decidable mg} (hG : injG G) (hN : G.2.1 = 72) (hPQ : (P = 24 ∧ Q = 28) ∨ (P = 28 ∧ Q = 24)) (h23 : c23 G c P Q pk) (hE : Ex G c P (P + 1) (P + 2) (P + 3) X1) (hXB : XB X1.1) (hp : -10 ≤ p ∧ p ≤ 1000) : AMet l G yX2_ruleAt cX2_ruleAt 5 ((some .int)) (rmR 1 21) [.ref (G.1 23), .int (zI p), .int (zI (if mg then 1 else 0 : Int))] c (Qi (fun v c' => v = zI (rlZ X1.1 p mg) ∧ c' = c)) := by
  refine AMet.of (vl := [some (.ref (G.1 23)), some (.int (zI p)), some (.int (zI (if mg then 1 else 0 : Int)))]) (by decide) hG (Nat.le_of_ble_eq_true rfl) rfl ?_
  intro K X
  have X : Fx l G K cX2_ruleAt 5 RX2 ((some .int)) (rmR 1 21) := X
  have q1 := XB_tkA hXB p
  have q2 := XB_tkA hXB (p + 1)
  refine A_aload_n (q := 1) X dX2_ruleAt_0 rfl rfl ?_
  refine A_getf (q := 4) X fX2_12 dX2_ruleAt_1 (by omega) h23 rfl rfl ?_
  refine A_iload_n (q := 5) X dX2_ruleAt_4 rfl rfl ?_
  refine A_V1i (q := 8) X (c_X0_token hG hE (by omega)) mX0_token kX2_73 dX2_ruleAt_5 hE.lt hE.cell rfl (by decide) (Nat.le_of_ble_eq_true rfl) rfl (fun vq_3 cq_2 hq_1 => ?_)
  obtain ⟨rfl, hq_1⟩ := hq_1
  obtain rfl := hq_1.symm
  refine A_istore_n (q := 9) X dX2_ruleAt_8 (by decide) (okP_s rfl rfl) rfl ?_
  refine A_aload_n (q := 10) X dX2_ruleAt_9 rfl rfl ?_
  refine A_getf (q := 13) X fX2_12 dX2_ruleAt_10 (by omega) h23 rfl rfl ?_
  refine A_iload_n (q := 14) X dX2_ruleAt_13 rfl rfl ?_
  refine A_iconst (q := 15) X dX2_ruleAt_14 rfl ?_
  refine A_iadd (q := 16) X dX2_ruleAt_15 rfl ?_
  refine A_V1i (q := 19) X (c_X0_token hG hE (by omega)) mX0_token kX2_73 dX2_ruleAt_16 hE.lt hE.cell rfl (by decide) (Nat.le_of_ble_eq_true rfl) rfl (fun vq_6 cq_5 hq_4 => ?_)
  obtain ⟨rfl, hq_4⟩ := hq_4
  obtain rfl := hq_4.symm
  refine A_istore (q := 21) X dX2_ruleAt_19 (by decide) (okP_s rfl rfl) rfl ?_
  refine A_iload_n (q := 22) X dX2_ruleAt_21 rfl rfl ?_
  refine A_sipush (q := 25) X dX2_ruleAt_22 (by decide) rfl ?_
  refine A_icmp_ne (q := 28) (t := 43) X dX2_ruleAt_25 (by omega) (by decide) rfl rfl (fun hb25 => ?_) (fun hb25 => ?_)
  · refine A_iload_n (q := 44) X dX2_ruleAt_43 rfl rfl ?_
    refine A_sipush (q := 47) X dX2_ruleAt_44 (by decide) rfl ?_
    refine A_icmp_eq (q := 50) (t := 53) X dX2_ruleAt_47 (by omega) (by decide) rfl rfl (fun hb47 => ?_) (fun hb47 => ?_)
    · refine A_iload (q := 55) X dX2_ruleAt_53 rfl rfl ?_
      by_cases e55_1000 : (tkA X1.1 (p + 1)) = 1000
      · refine A_tableIn (q := 80) (off := 25) X dX2_ruleAt_55 (by omega) (by omega) (by omega) (by rw [e55_1000]; rfl) rfl ?_
        refine A_iconst (q := 81) X dX2_ruleAt_80 rfl ?_
        exact A_ireturn X dX2_ruleAt_81 ⟨by unfold rlZ; repeat (first | rw [if_pos (by omega)] | rw [if_neg (by omega)] | rw [if_pos (by assumption)] | rw [if_neg (by assumption)]), rfl⟩
      · skip
        by_cases e55_1001 : (tkA X1.1 (p + 1)) = 1001
        · refine A_tableIn (q := 82) (off := 27) X dX2_ruleAt_55 (by omega) (by omega) (by omega) (by rw [e55_1001]; rfl) rfl ?_
          refine A_iconst (q := 83) X dX2_ruleAt_82 rfl ?_
          exact A_ireturn X dX2_ruleAt_83 ⟨by unfold rlZ; repeat (first | rw [if_pos (by omega)] | rw [if_neg (by omega)] | rw [if_pos (by assumption)] | rw [if_neg (by assumption)]), rfl⟩
        · skip
          by_cases e55_1002 : (tkA X1.1 (p + 1)) = 1002
          · refine A_tableIn (q := 84) (off := 29) X dX2_ruleAt_55 (by omega) (by omega) (by omega) (by rw [e55_1002]; rfl) rfl ?_
            refine A_iload_n (q := 85) X dX2_ruleAt_84 rfl rfl ?_
            refine A_beq (q := 88) (t := 92) X dX2_ruleAt_85 rfl rfl (fun hb85 => ?_) (fun hb85 => ?_)
            · refine A_bipush (q := 94) X dX2_ruleAt_92 (by decide) rfl ?_
              exact A_ireturn X dX2_ruleAt_94 ⟨by unfold rlZ; repeat (first | rw [if_pos (by omega)] | rw [if_neg (by omega)] | rw [if_pos (by assumption)] | rw [if_neg (by assumption)]), rfl⟩
            · refine A_iconst (q := 89) X dX2_ruleAt_88 rfl ?_
              refine A_goto (q := 94) X dX2_ruleAt_89 rfl ?_
              exact A_ireturn X dX2_ruleAt_94 ⟨by unfold rlZ; repeat (first | rw [if_pos (by omega)] | rw [if_neg (by omega)] | rw [if_pos (by assumption)] | rw [if_neg (by assumption)]), rfl⟩
          · skip
            refine A_tableOut (q := 95) X dX2_ruleAt_55 (by omega) (by omega) rfl ?_
            refine A_iconst (q := 96) X dX2_ruleAt_95 rfl ?_
            exact A_ireturn X dX2_ruleAt_96 ⟨by unfold rlZ; repeat (first | rw [if_pos (by omega)] | rw [if_neg (by omega)] | rw [if_pos (by assumption)] | rw [if_neg (by assumption)]), rfl⟩
    · refine A_bipush (q := 52) X dX2_ruleAt_50 (by decide) rfl ?_
      exact A_ireturn X dX2_ruleAt_52 ⟨by unfold rlZ; repeat (first | rw [if_pos (by omega)] | rw [if_neg (by omega)] | rw [if_pos (by assumption)] | rw [if_neg (by assumption)]), rfl⟩
  · refine A_iload (q := 30) X dX2_ruleAt_28 rfl rfl ?_
    refine A_sipush (q := 33) X dX2_ruleAt_30 (by decide) rfl ?_
    refine A_icmp_ne (q := 36) (t := 40) X dX2_ruleAt_33 (by omega) (by decide) rfl rfl (fun hb33 => ?_) (fun hb33 => ?_)
    · refine A_bipush (q := 42) X dX2_ruleAt_40 (by decide) rfl ?_
      exact A_ireturn X dX2_ruleAt_42 ⟨by unfold rlZ; repeat (first | rw [if_pos (by omega)] | rw [if_neg (by omega)] | rw [if_pos (by assumption)] | rw [if_neg (by assumption)]), rfl⟩
    · refine A_iconst (q := 37) X dX2_ruleAt_36 rfl ?_
      refine A_goto (q := 42) X dX2_ruleAt_37 rfl ?_
      exact A_ireturn X dX2_ruleAt_42 ⟨by unfold rlZ; repeat (first | rw [if_pos (by omega)] | rw [if_neg (by omega)] | rw [if_pos (by assumption)] | rw [if_neg (by assumption)]), rfl⟩
theorem rlZ_rg (l : List Int) (p : Int) (mg : Prop) [Decidable mg] : -9 ≤ rlZ l p mg ∧ rlZ l p mg ≤ 4 := by
  unfold rlZ
  repeat (first | omega | split)
abbrev anyR (l : List Int) (mg : Prop) [Decidable mg] (k : Nat) : Prop := rlZ l (k : Nat) mg ≠ -9
set_option maxRecDepth 100000 in
set_option maxHeartbeats 4000000 in
theorem lp_X2_firstPlace {l : Launch} {G : Gm} {K : Cx} {c : HP} {P Q : Nat} {pk : Int} {X1 : List Int × Int} {mg : Prop} {dm : Decidable mg} (X : Fx l G K cX2_firstPlace 3 RX2 ((some .int)) (rmR 2 45)) (hG : injG G) (hN : G.2.1 = 72) (hPQ : (P = 24 ∧ Q = 28) ∨ (P = 28 ∧ Q = 24)) (h23 : c23 G c P Q pk) (hE : Ex G c P (P + 1) (P + 2) (P + 3) X1) (hXB : XB X1.1) : ∀ (n : Nat) (i : Nat), X1.1.length - i < n → i ≤ X1.1.length → (∀ j, j < i → ¬ anyR X1.1 mg j) → AW G K (Qi (fun v c' => v = zI (fnd (anyR X1.1 mg) X1.1.length) ∧ c' = c)) 2 (mkL [some (.ref (G.1 23)), some (.int (zI (if mg then 1 else 0 : Int))), some (.int (zI ((i : Nat) : Int)))]) [] c := by
  intro n
  induction n with
  | zero => intro i hmz; exact absurd hmz (Nat.not_lt_zero _)
  | succ n ih =>
    intro i hmz hi hj
    have hl1 := hE.len
    refine A_iload_n (q := 3) X dX2_firstPlace_2 rfl rfl ?_
    refine A_aload_n (q := 4) X dX2_firstPlace_3 rfl rfl ?_
    refine A_getf (q := 7) X fX2_12 dX2_firstPlace_4 (by omega) h23 rfl rfl ?_
    refine A_V0i (q := 10) X (c_X0_length hG hE) mX0_length kX2_49 dX2_firstPlace_7 hE.lt hE.cell rfl (by decide) (Nat.le_of_ble_eq_true rfl) rfl (fun vq_3 cq_2 hq_1 => ?_)
    obtain ⟨rfl, hq_1⟩ := hq_1
    obtain rfl := hq_1.symm
    refine A_icmp_ge (q := 13) (t := 32) X dX2_firstPlace_10 (by omega) (by omega) rfl rfl (fun hb10 => ?_) (fun hb10 => ?_)
    · refine A_bipush (q := 34) X dX2_firstPlace_32 (by decide) rfl ?_
      exact A_ireturn X dX2_firstPlace_34 ⟨by rw [fnd_none (fun k hk => hj k (by omega))], rfl⟩
    · refine A_aload_n (q := 14) X dX2_firstPlace_13 rfl rfl ?_
      refine A_iload_n (q := 15) X dX2_firstPlace_14 rfl rfl ?_
      refine A_iload_n (q := 16) X dX2_firstPlace_15 rfl rfl ?_
      refine A_V2i (q := 19) X (c_X2_ruleAt (dm := dm) hG hN hPQ h23 hE hXB (by omega)) mX2_ruleAt kX2_37 dX2_firstPlace_16 (by omega) h23 rfl (by decide) (Nat.le_of_ble_eq_true rfl) rfl (fun vq_6 cq_5 hq_4 => ?_)
      obtain ⟨rfl, hq_4⟩ := hq_4
      obtain rfl := hq_4.symm
      have q1 := rlZ_rg X1.1 ((i : Nat) : Int) mg
      refine A_bipush (q := 21) X dX2_firstPlace_19 (by decide) rfl ?_
      refine A_icmp_eq (q := 24) (t := 26) X dX2_firstPlace_21 (by omega) (by decide) rfl rfl (fun hb21 => ?_) (fun hb21 => ?_)
      · refine A_iinc (q := 29) X dX2_firstPlace_26 rfl (by decide) (okP_s rfl rfl) rfl ?_
        refine A_goto (q := 2) X dX2_firstPlace_29 rfl ?_
        exact AW.loc (sS rfl (sS rfl (sZ rfl (by omega) sE))) (ih (i + 1) (by omega) (by omega) (lt_s hj (fun h => h hb21)))
      · refine A_iload_n (q := 25) X dX2_firstPlace_24 rfl rfl ?_
        exact A_ireturn X dX2_firstPlace_25 ⟨by rw [fnd_some (P := anyR X1.1 mg) (k := i) hb21 hj (by omega)], rfl⟩
set_option maxRecDepth 100000 in
set_option maxHeartbeats 4000000 in
theorem c_X2_firstPlace {l : Launch} {G : Gm} {c : HP} {P Q : Nat} {pk : Int} {X1 : List Int × Int} {mg : Prop} {dm : Decidable mg} (hG : injG G) (hN : G.2.1 = 72) (hPQ : (P = 24 ∧ Q = 28) ∨ (P = 28 ∧ Q = 24)) (h23 : c23 G c P Q pk) (hE : Ex G c P (P + 1) (P + 2) (P + 3) X1) (hXB : XB X1.1) : AMet l G yX2_firstPlace cX2_firstPlace 3 ((some .int)) (rmR 2 45) [.ref (G.1 23), .int (zI (if mg then 1 else 0 : Int))] c (Qi (fun v c' => v = zI (fnd (anyR X1.1 mg) X1.1.length) ∧ c' = c)) := by
  refine AMet.of (vl := [some (.ref (G.1 23)), some (.int (zI (if mg then 1 else 0 : Int)))]) (by decide) hG (Nat.le_of_ble_eq_true rfl) rfl ?_
  intro K X
  have X : Fx l G K cX2_firstPlace 3 RX2 ((some .int)) (rmR 2 45) := X
  refine A_iconst (q := 1) X dX2_firstPlace_0 rfl ?_
  refine A_istore_n (q := 2) X dX2_firstPlace_1 (by decide) (okP_s rfl rfl) rfl ?_
  exact AW.loc (sS rfl (sS rfl (sZ rfl (by omega) sE))) (lp_X2_firstPlace (dm := dm) X hG hN hPQ h23 hE hXB _ 0 (Nat.lt_succ_self _) (Nat.zero_le _) lt_0)
set_option maxRecDepth 100000 in
set_option maxHeartbeats 4000000 in
theorem tl_X2_rewrite {l : Launch} {G : Gm} {K : Cx} {c0 c : HP} {P Q p : Nat} {pk r : Int} {X1 T : List Int × Int} {ap : Nat → Int} (X : Fx l G K cX2_rewrite 4 RX2 (none) (rmR 3 95)) (hG : injG G) (hN : G.2.1 = 72) (hPQ : (P = 24 ∧ Q = 28) ∨ (P = 28 ∧ Q = 24)) (h23 : c23 G c P Q pk) (hE : Ex G c P (P + 1) (P + 2) (P + 3) X1) (hXG : XG X1.1) (hE2 : Ex G c Q (Q + 1) (Q + 2) (Q + 3) T) (h32 : c 32 = aI G 5 ap) (hp : p + 1 < X1.1.length) (hr : 0 ≤ r ∧ r ≤ 4) (hx : RsX T (X1.1.take p ++ pcR X1.1 p r)) (hf0 : ∀ k, k < 23 ∨ 32 < k → c k = c0 k) : AW G K (Qv (fun c' => ∃ T', Mc G c' Q P T' (va_up ap r.toNat (ap r.toNat + 1)) pk ∧ RsX T' (rwX X1.1 p r) ∧ (∀ k, k < 23 ∨ 32 < k → c' k = c0 k))) 96 (mkL [some (.ref (G.1 23)), some (.int (zI ((p : Nat) : Int))), some (.int (zI r)), none]) [] c := by
  have hXB := hXG.xb
  have hl1 := hE.len
  have bl := bh_le (l := X1.1) (s := p) 1 (by omega)
  have bg := bh_ge X1.1 p 1
  refine A_aload_n (q := 97) X dX2_rewrite_96 rfl rfl ?_
  refine A_getf (q := 100) X fX2_18 dX2_rewrite_97 (by omega) h23 rfl rfl ?_
  refine A_aload_n (q := 101) X dX2_rewrite_100 rfl rfl ?_
  refine A_getf (q := 104) X fX2_12 dX2_rewrite_101 (by omega) h23 rfl rfl ?_
  refine A_aload_n (q := 105) X dX2_rewrite_104 rfl rfl ?_
  refine A_getf (q := 108) X fX2_12 dX2_rewrite_105 (by omega) h23 rfl rfl ?_
  refine A_iload_n (q := 109) X dX2_rewrite_108 rfl rfl ?_
  refine A_iconst (q := 110) X dX2_rewrite_109 rfl ?_
  refine A_V2i (q := 113) X (c_X0_behind (s := (p)) (n0 := 1) hG hE hXB (by omega) (by omega)) mX0_behind kX2_93 dX2_rewrite_110 hE.lt hE.cell rfl (by decide) (Nat.le_of_ble_eq_true rfl) rfl (fun vq_3 cq_2 hq_1 => ?_)
  obtain ⟨rfl, hq_1⟩ := hq_1
  obtain rfl := hq_1.symm
  refine A_aload_n (q := 114) X dX2_rewrite_113 rfl rfl ?_
  refine A_getf (q := 117) X fX2_12 dX2_rewrite_114 (by omega) h23 rfl rfl ?_
  refine A_V0i (q := 120) X (c_X0_length hG hE) mX0_length kX2_49 dX2_rewrite_117 hE.lt hE.cell rfl (by decide) (Nat.le_of_ble_eq_true rfl) rfl (fun vq_6 cq_5 hq_4 => ?_)
  obtain ⟨rfl, hq_4⟩ := hq_4
  obtain rfl := hq_4.symm
  refine A_V3v (q := 123) X (c_X0_addRange (i := ((bh X1.1 (p) 1))) (j := (X1.1.length)) hG hE2 hE (by omega) (by omega) (by omega) (by omega) (by omega) (by omega) (by omega) (by omega) (by omega) (by omega) (by omega) (by omega) (by omega) (by omega) (by omega) (by omega) (by omega) (by omega)) mX0_addRange kX2_74 dX2_rewrite_120 hE2.lt hE2.cell rfl (by decide) (Nat.le_of_ble_eq_true rfl) rfl (fun cq_8 hq_7 => ?_)
  obtain ⟨hE_9, hf_10⟩ := hq_7
  have hx_11 := RsX_range (l := X1.1) (i := ((bh X1.1 (p) 1))) (j := (X1.1.length)) hx (by omega) (by omega)
  refine A_aload_n (q := 124) X dX2_rewrite_123 rfl rfl ?_
  refine A_getf (q := 127) X fX2_12 dX2_rewrite_124 (by omega) ((hf_10 _ (by omega) (by omega) (by omega) (by omega)).trans h23) rfl rfl ?_
  refine A_astore_n (q := 128) X dX2_rewrite_127 (by decide) (okP_s rfl rfl) rfl ?_
  refine A_aload_n (q := 129) X dX2_rewrite_128 rfl rfl ?_
  refine A_aload_n (q := 130) X dX2_rewrite_129 rfl rfl ?_
  refine A_getf (q := 133) X fX2_18 dX2_rewrite_130 (by omega) ((hf_10 _ (by omega) (by omega) (by omega) (by omega)).trans h23) rfl rfl ?_
  refine A_putf (q := 136) X pX2_12 dX2_rewrite_133 (by omega) ((hf_10 _ (by omega) (by omega) (by omega) (by omega)).trans h23) (Nat.le_of_ble_eq_true rfl) rfl rfl rfl ?_
  refine A_aload_n (q := 137) X dX2_rewrite_136 rfl rfl ?_
  refine A_aload_n (q := 138) X dX2_rewrite_137 rfl rfl ?_
  refine A_putf (q := 141) X pX2_18 dX2_rewrite_138 (by omega) lk_eq (Nat.le_of_ble_eq_true rfl) rfl rfl rfl ?_
  refine A_iload_n (q := 142) X dX2_rewrite_141 rfl rfl ?_
  refine A_if_lt (q := 145) (t := 160) X dX2_rewrite_142 (by omega) rfl rfl (fun hb142 => ?_) (fun hb142 => ?_)
  · exfalso
    omega
  · refine A_iload_n (q := 146) X dX2_rewrite_145 rfl rfl ?_
    refine A_iconst (q := 147) X dX2_rewrite_146 rfl ?_
    refine A_icmp_ge (q := 150) (t := 160) X dX2_rewrite_147 (by omega) (by decide) rfl rfl (fun hb147 => ?_) (fun hb147 => ?_)
    · exfalso
      omega
    · refine A_aload_n (q := 151) X dX2_rewrite_150 rfl rfl ?_
      refine A_getf (q := 154) X fX2_21 dX2_rewrite_151 (by omega) lk_eq rfl rfl ?_
      refine A_iload_n (q := 155) X dX2_rewrite_154 rfl rfl ?_
      refine A_dup2 (q := 156) X dX2_rewrite_155 rfl rfl rfl ?_
      refine A_iald (q := 157) (h := 32) ((r).toNat) X dX2_rewrite_156 (by omega) (lk_ne (by omega) (lk_ne (by omega) ((hf_10 _ (by omega) (by omega) (by omega) (by omega)).trans h32))) (by omega) (by omega) (by decide) rfl ?_
      refine A_iconst (q := 158) X dX2_rewrite_157 rfl ?_
      refine A_iadd (q := 159) X dX2_rewrite_158 rfl ?_
      refine A_iast (q := 160) (h := 32) ((r).toNat) X dX2_rewrite_159 (by omega) (lk_ne (by omega) (lk_ne (by omega) ((hf_10 _ (by omega) (by omega) (by omega) (by omega)).trans h32))) (by omega) (by omega) (by decide) rfl ?_
      exact A_return X dX2_rewrite_160 ⟨_, ⟨(by omega : (Q = 24 ∧ P = 28) ∨ (Q = 28 ∧ P = 24)), (lk_ne (by omega) lk_eq), (hE_9.keep (lk_ne (by omega) (lk_ne (by omega) (lk_ne (by omega) rfl))) (lk_ne (by omega) (lk_ne (by omega) (lk_ne (by omega) rfl))) (lk_ne (by omega) (lk_ne (by omega) (lk_ne (by omega) rfl))) (lk_ne (by omega) (lk_ne (by omega) (lk_ne (by omega) rfl)))), ⟨_, (hE.keep (lk_ne (by omega) (lk_ne (by omega) (lk_ne (by omega) ((hf_10 P (by omega) (by omega) (by omega) (by omega)).trans rfl)))) (lk_ne (by omega) (lk_ne (by omega) (lk_ne (by omega) ((hf_10 (P + 1) (by omega) (by omega) (by omega) (by omega)).trans rfl)))) (lk_ne (by omega) (lk_ne (by omega) (lk_ne (by omega) ((hf_10 (P + 2) (by omega) (by omega) (by omega) (by omega)).trans rfl)))) (lk_ne (by omega) (lk_ne (by omega) (lk_ne (by omega) ((hf_10 (P + 3) (by omega) (by omega) (by omega) (by omega)).trans rfl)))))⟩, lk_eq⟩, RsX_eq hx_11 (by unfold rwX sl; rw [List.append_assoc, List.take_of_length_le (l := X1.1.drop _) (by rw [List.length_drop]; omega)]), fun k n0 => (lk_ne (by omega) (lk_ne (by omega) (lk_ne (by omega) ((hf_10 _ (by omega) (by omega) (by omega) (by omega)).trans (hf0 k n0)))))⟩
set_option maxRecDepth 100000 in
set_option maxHeartbeats 4000000 in
theorem c_X2_rewrite {l : Launch} {G : Gm} {c : HP} {P Q p : Nat} {pk r : Int} {X1 : List Int × Int} {ap : Nat → Int} (hG : injG G) (hN : G.2.1 = 72) (hM : Mc G c P Q X1 ap pk) (hXG : XG X1.1) (hrc : rlC X1.1 p r) : AMet l G yX2_rewrite cX2_rewrite 4 (none) (rmR 3 95) [.ref (G.1 23), .int (zI ((p : Nat) : Int)), .int (zI r)] c (Qv (fun c' => ∃ T', Mc G c' Q P T' (va_up ap r.toNat (ap r.toNat + 1)) pk ∧ RsX T' (rwX X1.1 p r) ∧ (∀ k, k < 23 ∨ 32 < k → c' k = c k))) := by
  refine AMet.of (vl := [some (.ref (G.1 23)), some (.int (zI ((p : Nat) : Int))), some (.int (zI r))]) (by decide) hG (Nat.le_of_ble_eq_true rfl) rfl ?_
  intro K X
  have X : Fx l G K cX2_rewrite 4 RX2 (none) (rmR 3 95) := X
  obtain ⟨hPQ, h23, hE, ⟨T, hE2⟩, h32⟩ := hM
  obtain ⟨hp, hcs⟩ := hrc
  have hXB := hXG.xb
  have hl1 := hE.len
  refine A_aload_n (q := 1) X dX2_rewrite_0 rfl rfl ?_
  refine A_getf (q := 4) X fX2_18 dX2_rewrite_1 (by omega) h23 rfl rfl ?_
  refine A_V0v (q := 7) X (c_X0_clear hG hE2) mX0_clear kX2_59 dX2_rewrite_4 hE2.lt hE2.cell rfl (by decide) (Nat.le_of_ble_eq_true rfl) rfl (fun cq_2 hq_1 => ?_)
  obtain ⟨hE_3, hf_4⟩ := hq_1
  have hx0 : RsX (([], 0) : List Int × Int) [] := Or.inl ⟨rfl, rfl⟩
  refine A_aload_n (q := 8) X dX2_rewrite_7 rfl rfl ?_
  refine A_getf (q := 11) X fX2_18 dX2_rewrite_8 (by omega) ((hf_4 _ (by omega) (by omega) (by omega) (by omega)).trans h23) rfl rfl ?_
  refine A_aload_n (q := 12) X dX2_rewrite_11 rfl rfl ?_
  refine A_getf (q := 15) X fX2_12 dX2_rewrite_12 (by omega) ((hf_4 _ (by omega) (by omega) (by omega) (by omega)).trans h23) rfl rfl ?_
  refine A_iconst (q := 16) X dX2_rewrite_15 rfl ?_
  refine A_iload_n (q := 17) X dX2_rewrite_16 rfl rfl ?_
  refine A_V3v (q := 20) X (c_X0_addRange (i := 0) (j := (p)) hG hE_3 (hE.keep ((hf_4 P (by omega) (by omega) (by omega) (by omega)).trans rfl) ((hf_4 (P + 1) (by omega) (by omega) (by omega) (by omega)).trans rfl) ((hf_4 (P + 2) (by omega) (by omega) (by omega) (by omega)).trans rfl) ((hf_4 (P + 3) (by omega) (by omega) (by omega) (by omega)).trans rfl)) (by omega) (by omega) (by omega) (by omega) (by omega) (by omega) (by omega) (by omega) (by omega) (by omega) (by omega) (by omega) (by omega) (by omega) (by omega) (by omega) (by omega) (by omega)) mX0_addRange kX2_74 dX2_rewrite_17 hE2.lt hE_3.cell rfl (by decide) (Nat.le_of_ble_eq_true rfl) rfl (fun cq_6 hq_5 => ?_)
  obtain ⟨hE_7, hf_8⟩ := hq_5
  have hx_9 := RsX_range (l := X1.1) (i := 0) (j := (p)) hx0 (by omega) (by omega)
  refine A_iload_n (q := 21) X dX2_rewrite_20 rfl rfl ?_
  by_cases e21_0 : r = 0
  · refine A_tableIn (q := 56) (off := 35) X dX2_rewrite_21 (by omega) (by omega) (by omega) (by rw [e21_0]; rfl) rfl ?_
    refine A_aload_n (q := 57) X dX2_rewrite_56 rfl rfl ?_
    refine A_iload_n (q := 58) X dX2_rewrite_57 rfl rfl ?_
    refine A_V1v (q := 61) X (c_X2_writeBeta hG hN hPQ ((hf_8 _ (by omega) (by omega) (by omega) (by omega)).trans ((hf_4 _ (by omega) (by omega) (by omega) (by omega)).trans h23)) (hE.keep ((hf_8 P (by omega) (by omega) (by omega) (by omega)).trans ((hf_4 P (by omega) (by omega) (by omega) (by omega)).trans rfl)) ((hf_8 (P + 1) (by omega) (by omega) (by omega) (by omega)).trans ((hf_4 (P + 1) (by omega) (by omega) (by omega) (by omega)).trans rfl)) ((hf_8 (P + 2) (by omega) (by omega) (by omega) (by omega)).trans ((hf_4 (P + 2) (by omega) (by omega) (by omega) (by omega)).trans rfl)) ((hf_8 (P + 3) (by omega) (by omega) (by omega) (by omega)).trans ((hf_4 (P + 3) (by omega) (by omega) (by omega) (by omega)).trans rfl))) hXG hE_7 hx_9 hp (by omega) (by omega)) mX2_writeBeta kX2_78 dX2_rewrite_58 (by omega) ((hf_8 _ (by omega) (by omega) (by omega) (by omega)).trans ((hf_4 _ (by omega) (by omega) (by omega) (by omega)).trans h23)) rfl (by decide) (Nat.le_of_ble_eq_true rfl) rfl (fun cq_11 hq_10 => ?_)
    obtain ⟨T2, hE22, hx2, hf2⟩ := hq_10
    refine A_goto (q := 96) X dX2_rewrite_61 rfl ?_
    exact AW.loc (sS rfl (sS rfl (sS rfl (sN sE)))) (tl_X2_rewrite X hG hN hPQ ((hf2 _ (by omega) (by omega) (by omega) (by omega)).trans ((hf_8 _ (by omega) (by omega) (by omega) (by omega)).trans ((hf_4 _ (by omega) (by omega) (by omega) (by omega)).trans h23))) (hE.keep ((hf2 P (by omega) (by omega) (by omega) (by omega)).trans ((hf_8 P (by omega) (by omega) (by omega) (by omega)).trans ((hf_4 P (by omega) (by omega) (by omega) (by omega)).trans rfl))) ((hf2 (P + 1) (by omega) (by omega) (by omega) (by omega)).trans ((hf_8 (P + 1) (by omega) (by omega) (by omega) (by omega)).trans ((hf_4 (P + 1) (by omega) (by omega) (by omega) (by omega)).trans rfl))) ((hf2 (P + 2) (by omega) (by omega) (by omega) (by omega)).trans ((hf_8 (P + 2) (by omega) (by omega) (by omega) (by omega)).trans ((hf_4 (P + 2) (by omega) (by omega) (by omega) (by omega)).trans rfl))) ((hf2 (P + 3) (by omega) (by omega) (by omega) (by omega)).trans ((hf_8 (P + 3) (by omega) (by omega) (by omega) (by omega)).trans ((hf_4 (P + 3) (by omega) (by omega) (by omega) (by omega)).trans rfl)))) hXG hE22 ((hf2 _ (by omega) (by omega) (by omega) (by omega)).trans ((hf_8 _ (by omega) (by omega) (by omega) (by omega)).trans ((hf_4 _ (by omega) (by omega) (by omega) (by omega)).trans h32))) hp (by omega) (RsX_eq hx2 (by unfold pcR;  rw [if_pos (by omega)]; first | rfl | (unfold sl; rw [List.drop_zero, Nat.sub_zero, List.nil_append]))) (fun k n0 => ((hf2 _ (by omega) (by omega) (by omega) (by omega)).trans ((hf_8 _ (by omega) (by omega) (by omega) (by omega)).trans ((hf_4 _ (by omega) (by omega) (by omega) (by omega)).trans rfl)))))
  · skip
    by_cases e21_1 : r = 1
    · refine A_tableIn (q := 64) (off := 43) X dX2_rewrite_21 (by omega) (by omega) (by omega) (by rw [e21_1]; rfl) rfl ?_
      refine A_aload_n (q := 65) X dX2_rewrite_64 rfl rfl ?_
      refine A_iload_n (q := 66) X dX2_rewrite_65 rfl rfl ?_
      refine A_V1v (q := 69) X (c_X2_writeApply hG hN hPQ ((hf_8 _ (by omega) (by omega) (by omega) (by omega)).trans ((hf_4 _ (by omega) (by omega) (by omega) (by omega)).trans h23)) (hE.keep ((hf_8 P (by omega) (by omega) (by omega) (by omega)).trans ((hf_4 P (by omega) (by omega) (by omega) (by omega)).trans rfl)) ((hf_8 (P + 1) (by omega) (by omega) (by omega) (by omega)).trans ((hf_4 (P + 1) (by omega) (by omega) (by omega) (by omega)).trans rfl)) ((hf_8 (P + 2) (by omega) (by omega) (by omega) (by omega)).trans ((hf_4 (P + 2) (by omega) (by omega) (by omega) (by omega)).trans rfl)) ((hf_8 (P + 3) (by omega) (by omega) (by omega) (by omega)).trans ((hf_4 (P + 3) (by omega) (by omega) (by omega) (by omega)).trans rfl))) hXG hE_7 hx_9 hp (by omega) (by omega)) mX2_writeApply kX2_81 dX2_rewrite_66 (by omega) ((hf_8 _ (by omega) (by omega) (by omega) (by omega)).trans ((hf_4 _ (by omega) (by omega) (by omega) (by omega)).trans h23)) rfl (by decide) (Nat.le_of_ble_eq_true rfl) rfl (fun cq_13 hq_12 => ?_)
      obtain ⟨T2, hE22, hx2, hf2⟩ := hq_12
      refine A_goto (q := 96) X dX2_rewrite_69 rfl ?_
      exact AW.loc (sS rfl (sS rfl (sS rfl (sN sE)))) (tl_X2_rewrite X hG hN hPQ ((hf2 _ (by omega) (by omega) (by omega) (by omega)).trans ((hf_8 _ (by omega) (by omega) (by omega) (by omega)).trans ((hf_4 _ (by omega) (by omega) (by omega) (by omega)).trans h23))) (hE.keep ((hf2 P (by omega) (by omega) (by omega) (by omega)).trans ((hf_8 P (by omega) (by omega) (by omega) (by omega)).trans ((hf_4 P (by omega) (by omega) (by omega) (by omega)).trans rfl))) ((hf2 (P + 1) (by omega) (by omega) (by omega) (by omega)).trans ((hf_8 (P + 1) (by omega) (by omega) (by omega) (by omega)).trans ((hf_4 (P + 1) (by omega) (by omega) (by omega) (by omega)).trans rfl))) ((hf2 (P + 2) (by omega) (by omega) (by omega) (by omega)).trans ((hf_8 (P + 2) (by omega) (by omega) (by omega) (by omega)).trans ((hf_4 (P + 2) (by omega) (by omega) (by omega) (by omega)).trans rfl))) ((hf2 (P + 3) (by omega) (by omega) (by omega) (by omega)).trans ((hf_8 (P + 3) (by omega) (by omega) (by omega) (by omega)).trans ((hf_4 (P + 3) (by omega) (by omega) (by omega) (by omega)).trans rfl)))) hXG hE22 ((hf2 _ (by omega) (by omega) (by omega) (by omega)).trans ((hf_8 _ (by omega) (by omega) (by omega) (by omega)).trans ((hf_4 _ (by omega) (by omega) (by omega) (by omega)).trans h32))) hp (by omega) (RsX_eq hx2 (by unfold pcR; rw [if_neg (by omega)]; rw [if_pos (by omega)]; first | rfl | (unfold sl; rw [List.drop_zero, Nat.sub_zero, List.nil_append]))) (fun k n0 => ((hf2 _ (by omega) (by omega) (by omega) (by omega)).trans ((hf_8 _ (by omega) (by omega) (by omega) (by omega)).trans ((hf_4 _ (by omega) (by omega) (by omega) (by omega)).trans rfl)))))
    · skip
      by_cases e21_2 : r = 2
      · refine A_tableIn (q := 72) (off := 51) X dX2_rewrite_21 (by omega) (by omega) (by omega) (by rw [e21_2]; rfl) rfl ?_
        refine A_aload_n (q := 73) X dX2_rewrite_72 rfl rfl ?_
        refine A_iload_n (q := 74) X dX2_rewrite_73 rfl rfl ?_
        refine A_V1v (q := 77) X (c_X2_writeAbstract hG hN hPQ ((hf_8 _ (by omega) (by omega) (by omega) (by omega)).trans ((hf_4 _ (by omega) (by omega) (by omega) (by omega)).trans h23)) (hE.keep ((hf_8 P (by omega) (by omega) (by omega) (by omega)).trans ((hf_4 P (by omega) (by omega) (by omega) (by omega)).trans rfl)) ((hf_8 (P + 1) (by omega) (by omega) (by omega) (by omega)).trans ((hf_4 (P + 1) (by omega) (by omega) (by omega) (by omega)).trans rfl)) ((hf_8 (P + 2) (by omega) (by omega) (by omega) (by omega)).trans ((hf_4 (P + 2) (by omega) (by omega) (by omega) (by omega)).trans rfl)) ((hf_8 (P + 3) (by omega) (by omega) (by omega) (by omega)).trans ((hf_4 (P + 3) (by omega) (by omega) (by omega) (by omega)).trans rfl))) hXG hE_7 hx_9 hp (by omega)) mX2_writeAbstract kX2_84 dX2_rewrite_74 (by omega) ((hf_8 _ (by omega) (by omega) (by omega) (by omega)).trans ((hf_4 _ (by omega) (by omega) (by omega) (by omega)).trans h23)) rfl (by decide) (Nat.le_of_ble_eq_true rfl) rfl (fun cq_15 hq_14 => ?_)
        obtain ⟨T2, hE22, hx2, hf2⟩ := hq_14
        refine A_goto (q := 96) X dX2_rewrite_77 rfl ?_
        exact AW.loc (sS rfl (sS rfl (sS rfl (sN sE)))) (tl_X2_rewrite X hG hN hPQ ((hf2 _ (by omega) (by omega) (by omega) (by omega)).trans ((hf_8 _ (by omega) (by omega) (by omega) (by omega)).trans ((hf_4 _ (by omega) (by omega) (by omega) (by omega)).trans h23))) (hE.keep ((hf2 P (by omega) (by omega) (by omega) (by omega)).trans ((hf_8 P (by omega) (by omega) (by omega) (by omega)).trans ((hf_4 P (by omega) (by omega) (by omega) (by omega)).trans rfl))) ((hf2 (P + 1) (by omega) (by omega) (by omega) (by omega)).trans ((hf_8 (P + 1) (by omega) (by omega) (by omega) (by omega)).trans ((hf_4 (P + 1) (by omega) (by omega) (by omega) (by omega)).trans rfl))) ((hf2 (P + 2) (by omega) (by omega) (by omega) (by omega)).trans ((hf_8 (P + 2) (by omega) (by omega) (by omega) (by omega)).trans ((hf_4 (P + 2) (by omega) (by omega) (by omega) (by omega)).trans rfl))) ((hf2 (P + 3) (by omega) (by omega) (by omega) (by omega)).trans ((hf_8 (P + 3) (by omega) (by omega) (by omega) (by omega)).trans ((hf_4 (P + 3) (by omega) (by omega) (by omega) (by omega)).trans rfl)))) hXG hE22 ((hf2 _ (by omega) (by omega) (by omega) (by omega)).trans ((hf_8 _ (by omega) (by omega) (by omega) (by omega)).trans ((hf_4 _ (by omega) (by omega) (by omega) (by omega)).trans h32))) hp (by omega) (RsX_eq hx2 (by unfold pcR; rw [if_neg (by omega)]; rw [if_neg (by omega)]; rw [if_pos (by omega)]; first | rfl | (unfold sl; rw [List.drop_zero, Nat.sub_zero, List.nil_append]))) (fun k n0 => ((hf2 _ (by omega) (by omega) (by omega) (by omega)).trans ((hf_8 _ (by omega) (by omega) (by omega) (by omega)).trans ((hf_4 _ (by omega) (by omega) (by omega) (by omega)).trans rfl)))))
      · skip
        by_cases e21_3 : r = 3
        · refine A_tableIn (q := 80) (off := 59) X dX2_rewrite_21 (by omega) (by omega) (by omega) (by rw [e21_3]; rfl) rfl ?_
          refine A_aload_n (q := 81) X dX2_rewrite_80 rfl rfl ?_
          refine A_iload_n (q := 82) X dX2_rewrite_81 rfl rfl ?_
          refine A_V1v (q := 85) X (c_X2_writeLookup hG hN hPQ ((hf_8 _ (by omega) (by omega) (by omega) (by omega)).trans ((hf_4 _ (by omega) (by omega) (by omega) (by omega)).trans h23)) (hE.keep ((hf_8 P (by omega) (by omega) (by omega) (by omega)).trans ((hf_4 P (by omega) (by omega) (by omega) (by omega)).trans rfl)) ((hf_8 (P + 1) (by omega) (by omega) (by omega) (by omega)).trans ((hf_4 (P + 1) (by omega) (by omega) (by omega) (by omega)).trans rfl)) ((hf_8 (P + 2) (by omega) (by omega) (by omega) (by omega)).trans ((hf_4 (P + 2) (by omega) (by omega) (by omega) (by omega)).trans rfl)) ((hf_8 (P + 3) (by omega) (by omega) (by omega) (by omega)).trans ((hf_4 (P + 3) (by omega) (by omega) (by omega) (by omega)).trans rfl))) hXG hE_7 hx_9 hp (by omega) (by omega)) mX2_writeLookup kX2_87 dX2_rewrite_82 (by omega) ((hf_8 _ (by omega) (by omega) (by omega) (by omega)).trans ((hf_4 _ (by omega) (by omega) (by omega) (by omega)).trans h23)) rfl (by decide) (Nat.le_of_ble_eq_true rfl) rfl (fun cq_17 hq_16 => ?_)
          obtain ⟨T2, hE22, hx2, hf2⟩ := hq_16
          refine A_goto (q := 96) X dX2_rewrite_85 rfl ?_
          exact AW.loc (sS rfl (sS rfl (sS rfl (sN sE)))) (tl_X2_rewrite X hG hN hPQ ((hf2 _ (by omega) (by omega) (by omega) (by omega)).trans ((hf_8 _ (by omega) (by omega) (by omega) (by omega)).trans ((hf_4 _ (by omega) (by omega) (by omega) (by omega)).trans h23))) (hE.keep ((hf2 P (by omega) (by omega) (by omega) (by omega)).trans ((hf_8 P (by omega) (by omega) (by omega) (by omega)).trans ((hf_4 P (by omega) (by omega) (by omega) (by omega)).trans rfl))) ((hf2 (P + 1) (by omega) (by omega) (by omega) (by omega)).trans ((hf_8 (P + 1) (by omega) (by omega) (by omega) (by omega)).trans ((hf_4 (P + 1) (by omega) (by omega) (by omega) (by omega)).trans rfl))) ((hf2 (P + 2) (by omega) (by omega) (by omega) (by omega)).trans ((hf_8 (P + 2) (by omega) (by omega) (by omega) (by omega)).trans ((hf_4 (P + 2) (by omega) (by omega) (by omega) (by omega)).trans rfl))) ((hf2 (P + 3) (by omega) (by omega) (by omega) (by omega)).trans ((hf_8 (P + 3) (by omega) (by omega) (by omega) (by omega)).trans ((hf_4 (P + 3) (by omega) (by omega) (by omega) (by omega)).trans rfl)))) hXG hE22 ((hf2 _ (by omega) (by omega) (by omega) (by omega)).trans ((hf_8 _ (by omega) (by omega) (by omega) (by omega)).trans ((hf_4 _ (by omega) (by omega) (by omega) (by omega)).trans h32))) hp (by omega) (RsX_eq hx2 (by unfold pcR; rw [if_neg (by omega)]; rw [if_neg (by omega)]; rw [if_neg (by omega)]; rw [if_pos (by omega)]; first | rfl | (unfold sl; rw [List.drop_zero, Nat.sub_zero, List.nil_append]))) (fun k n0 => ((hf2 _ (by omega) (by omega) (by omega) (by omega)).trans ((hf_8 _ (by omega) (by omega) (by omega) (by omega)).trans ((hf_4 _ (by omega) (by omega) (by omega) (by omega)).trans rfl)))))
        · skip
          by_cases e21_4 : r = 4
          · refine A_tableIn (q := 88) (off := 67) X dX2_rewrite_21 (by omega) (by omega) (by omega) (by rw [e21_4]; rfl) rfl ?_
            refine A_aload_n (q := 89) X dX2_rewrite_88 rfl rfl ?_
            refine A_iload_n (q := 90) X dX2_rewrite_89 rfl rfl ?_
            refine A_V1v (q := 93) X (c_X2_writeMerge hG hN hPQ ((hf_8 _ (by omega) (by omega) (by omega) (by omega)).trans ((hf_4 _ (by omega) (by omega) (by omega) (by omega)).trans h23)) (hE.keep ((hf_8 P (by omega) (by omega) (by omega) (by omega)).trans ((hf_4 P (by omega) (by omega) (by omega) (by omega)).trans rfl)) ((hf_8 (P + 1) (by omega) (by omega) (by omega) (by omega)).trans ((hf_4 (P + 1) (by omega) (by omega) (by omega) (by omega)).trans rfl)) ((hf_8 (P + 2) (by omega) (by omega) (by omega) (by omega)).trans ((hf_4 (P + 2) (by omega) (by omega) (by omega) (by omega)).trans rfl)) ((hf_8 (P + 3) (by omega) (by omega) (by omega) (by omega)).trans ((hf_4 (P + 3) (by omega) (by omega) (by omega) (by omega)).trans rfl))) hXG hE_7 hx_9 hp (by omega) (by omega)) mX2_writeMerge kX2_90 dX2_rewrite_90 (by omega) ((hf_8 _ (by omega) (by omega) (by omega) (by omega)).trans ((hf_4 _ (by omega) (by omega) (by omega) (by omega)).trans h23)) rfl (by decide) (Nat.le_of_ble_eq_true rfl) rfl (fun cq_19 hq_18 => ?_)
            obtain ⟨T2, hE22, hx2, hf2⟩ := hq_18
            refine A_goto (q := 96) X dX2_rewrite_93 rfl ?_
            exact AW.loc (sS rfl (sS rfl (sS rfl (sN sE)))) (tl_X2_rewrite X hG hN hPQ ((hf2 _ (by omega) (by omega) (by omega) (by omega)).trans ((hf_8 _ (by omega) (by omega) (by omega) (by omega)).trans ((hf_4 _ (by omega) (by omega) (by omega) (by omega)).trans h23))) (hE.keep ((hf2 P (by omega) (by omega) (by omega) (by omega)).trans ((hf_8 P (by omega) (by omega) (by omega) (by omega)).trans ((hf_4 P (by omega) (by omega) (by omega) (by omega)).trans rfl))) ((hf2 (P + 1) (by omega) (by omega) (by omega) (by omega)).trans ((hf_8 (P + 1) (by omega) (by omega) (by omega) (by omega)).trans ((hf_4 (P + 1) (by omega) (by omega) (by omega) (by omega)).trans rfl))) ((hf2 (P + 2) (by omega) (by omega) (by omega) (by omega)).trans ((hf_8 (P + 2) (by omega) (by omega) (by omega) (by omega)).trans ((hf_4 (P + 2) (by omega) (by omega) (by omega) (by omega)).trans rfl))) ((hf2 (P + 3) (by omega) (by omega) (by omega) (by omega)).trans ((hf_8 (P + 3) (by omega) (by omega) (by omega) (by omega)).trans ((hf_4 (P + 3) (by omega) (by omega) (by omega) (by omega)).trans rfl)))) hXG hE22 ((hf2 _ (by omega) (by omega) (by omega) (by omega)).trans ((hf_8 _ (by omega) (by omega) (by omega) (by omega)).trans ((hf_4 _ (by omega) (by omega) (by omega) (by omega)).trans h32))) hp (by omega) (RsX_eq hx2 (by unfold pcR; rw [if_neg (by omega)]; rw [if_neg (by omega)]; rw [if_neg (by omega)]; rw [if_neg (by omega)]; first | rfl | (unfold sl; rw [List.drop_zero, Nat.sub_zero, List.nil_append]))) (fun k n0 => ((hf2 _ (by omega) (by omega) (by omega) (by omega)).trans ((hf_8 _ (by omega) (by omega) (by omega) (by omega)).trans ((hf_4 _ (by omega) (by omega) (by omega) (by omega)).trans rfl)))))
          · skip
            exfalso
            omega
