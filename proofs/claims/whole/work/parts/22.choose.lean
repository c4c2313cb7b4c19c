/-! REDUCER: strategies -/
theorem cntP_pos {P : Nat → Prop} [DecidablePred P] {n : Nat} (h : P n) : cntP P (n + 1) = cntP P n + 1 := by
  show cntP P n + (if P n then 1 else 0) = _
  rw [if_pos h]
theorem cntP_neg {P : Nat → Prop} [DecidablePred P] {n : Nat} (h : ¬ P n) : cntP P (n + 1) = cntP P n := by
  show cntP P n + (if P n then 1 else 0) = _
  rw [if_neg h]; rfl
set_option maxRecDepth 100000 in
set_option maxHeartbeats 4000000 in
theorem c_X5_isRedex {l : Launch} {G : Gm} {c : HP} {t ta : Nat} {T : List Int × Int} {p : Int} (hG : injG G) (hT : Tm G c t ta T) (hgd : Gd T.1) (hp : -10 ≤ p ∧ p ≤ 1000) : AMet l G yX5_isRedex cX5_isRedex 2 ((some .boolean)) (rmR 1 21) [.ref (G.1 t), .int (zI p)] c (Qi (fun v c' => v = zI (if tokA T.1 p = 1000 ∧ tokA T.1 (p + 1) = 1001 then 1 else 0) ∧ c' = c)) := by
  refine AMet.of (vl := [some (.ref (G.1 t)), some (.int (zI p))]) (by decide) hG (Nat.le_of_ble_eq_true rfl) rfl ?_
  intro K X
  have X : Fx l G K cX5_isRedex 2 RX5 ((some .boolean)) (rmR 1 21) := X
  have q1 := Gd_tokA hgd p
  have q2 := Gd_tokA hgd (p + 1)
  refine A_aload_n (q := 1) X dX5_isRedex_0 rfl rfl ?_
  refine A_iload_n (q := 2) X dX5_isRedex_1 rfl rfl ?_
  refine A_V1i (q := 5) X (c_X6_token hG hT (by omega)) mX6_token kX5_28 dX5_isRedex_2 hT.lt hT.cell rfl (by decide) (Nat.le_of_ble_eq_true rfl) rfl (fun vq_3 cq_2 hq_1 => ?_)
  obtain ⟨rfl, hq_1⟩ := hq_1
  obtain rfl := hq_1.symm
  refine A_sipush (q := 8) X dX5_isRedex_5 (by decide) rfl ?_
  refine A_icmp_ne (q := 11) (t := 28) X dX5_isRedex_8 (by omega) (by decide) rfl rfl (fun hb8 => ?_) (fun hb8 => ?_)
  · refine A_iconst (q := 29) X dX5_isRedex_28 rfl ?_
    exact A_zreturn X dX5_isRedex_29 (by decide) ⟨zb0 (by omega), rfl⟩
  · refine A_aload_n (q := 12) X dX5_isRedex_11 rfl rfl ?_
    refine A_iload_n (q := 13) X dX5_isRedex_12 rfl rfl ?_
    refine A_iconst (q := 14) X dX5_isRedex_13 rfl ?_
    refine A_iadd (q := 15) X dX5_isRedex_14 rfl ?_
    refine A_V1i (q := 18) X (c_X6_token hG hT (by omega)) mX6_token kX5_28 dX5_isRedex_15 hT.lt hT.cell rfl (by decide) (Nat.le_of_ble_eq_true rfl) rfl (fun vq_6 cq_5 hq_4 => ?_)
    obtain ⟨rfl, hq_4⟩ := hq_4
    obtain rfl := hq_4.symm
    refine A_sipush (q := 21) X dX5_isRedex_18 (by decide) rfl ?_
    refine A_icmp_ne (q := 24) (t := 28) X dX5_isRedex_21 (by omega) (by decide) rfl rfl (fun hb21 => ?_) (fun hb21 => ?_)
    · refine A_iconst (q := 29) X dX5_isRedex_28 rfl ?_
      exact A_zreturn X dX5_isRedex_29 (by decide) ⟨zb0 (by omega), rfl⟩
    · refine A_iconst (q := 25) X dX5_isRedex_24 rfl ?_
      refine A_goto (q := 29) X dX5_isRedex_25 rfl ?_
      exact A_zreturn X dX5_isRedex_29 (by decide) ⟨zb1 (by omega), rfl⟩
set_option maxRecDepth 100000 in
set_option maxHeartbeats 4000000 in
theorem lp_X5_countRedexes {l : Launch} {G : Gm} {K : Cx} {c : HP} {t ta : Nat} {T : List Int × Int} (X : Fx l G K cX5_countRedexes 3 RX5 ((some .int)) (rmR 2 42)) (hG : injG G) (hT : Tm G c t ta T) (hgd : Gd T.1) : ∀ (n : Nat) (i : Nat), T.1.length - i < n → i ≤ T.1.length → AW G K (Qi (fun v c' => v = zI (cntP (rx T.1) T.1.length : Nat) ∧ c' = c)) 4 (mkL [some (.ref (G.1 t)), some (.int (zI (((cntP (rx T.1) i) : Nat) : Int))), some (.int (zI ((i : Nat) : Int)))]) [] c := by
  intro n
  induction n with
  | zero => intro i hmz; exact absurd hmz (Nat.not_lt_zero _)
  | succ n ih =>
    intro i hmz hi
    have hlen := hT.len
    have ecl := cntP_le (rx T.1) i
    refine A_iload_n (q := 5) X dX5_countRedexes_4 rfl rfl ?_
    refine A_aload_n (q := 6) X dX5_countRedexes_5 rfl rfl ?_
    refine A_V0i (q := 9) X (c_X6_length hG hT) mX6_length kX5_32 dX5_countRedexes_6 hT.lt hT.cell rfl (by decide) (Nat.le_of_ble_eq_true rfl) rfl (fun vq_3 cq_2 hq_1 => ?_)
    obtain ⟨rfl, hq_1⟩ := hq_1
    obtain rfl := hq_1.symm
    refine A_icmp_ge (q := 12) (t := 29) X dX5_countRedexes_9 (by omega) (by omega) rfl rfl (fun hb9 => ?_) (fun hb9 => ?_)
    · refine A_iload_n (q := 30) X dX5_countRedexes_29 rfl rfl ?_
      exact A_ireturn X dX5_countRedexes_30 ⟨by rw [show i = T.1.length by omega], rfl⟩
    · refine A_aload_n (q := 13) X dX5_countRedexes_12 rfl rfl ?_
      refine A_iload_n (q := 14) X dX5_countRedexes_13 rfl rfl ?_
      refine A_S2i (q := 17) X (c_X5_isRedex hG hT hgd (by omega)) mX5_isRedex kX5_36 dX5_countRedexes_14 (by decide) (Nat.le_of_ble_eq_true rfl) rfl (fun vq_6 cq_5 hq_4 => ?_)
      obtain ⟨rfl, hq_4⟩ := hq_4
      obtain rfl := hq_4.symm
      refine A_beq (q := 20) (t := 23) X dX5_countRedexes_17 rfl rfl (fun hb17 => ?_) (fun hb17 => ?_)
      · refine A_iinc (q := 26) X dX5_countRedexes_23 rfl (by decide) (okP_s rfl rfl) rfl ?_
        refine A_goto (q := 4) X dX5_countRedexes_26 rfl ?_
        have ec := cntP_neg (P := rx T.1) (n := i) hb17
        exact AW.loc (sS rfl (sZ rfl (by omega) (sZ rfl (by omega) sE))) (ih (i + 1) (by omega) (by omega))
      · refine A_iinc (q := 23) X dX5_countRedexes_20 rfl (by decide) (okP_s rfl rfl) rfl ?_
        refine A_iinc (q := 26) X dX5_countRedexes_23 rfl (by decide) (okP_s rfl rfl) rfl ?_
        refine A_goto (q := 4) X dX5_countRedexes_26 rfl ?_
        have ec := cntP_pos (P := rx T.1) (n := i) hb17
        exact AW.loc (sS rfl (sZ rfl (by omega) (sZ rfl (by omega) sE))) (ih (i + 1) (by omega) (by omega))
set_option maxRecDepth 100000 in
set_option maxHeartbeats 4000000 in
theorem c_X5_countRedexes {l : Launch} {G : Gm} {c : HP} {t ta : Nat} {T : List Int × Int} (hG : injG G) (hT : Tm G c t ta T) (hgd : Gd T.1) : AMet l G yX5_countRedexes cX5_countRedexes 3 ((some .int)) (rmR 2 42) [.ref (G.1 t)] c (Qi (fun v c' => v = zI (cntP (rx T.1) T.1.length : Nat) ∧ c' = c)) := by
  refine AMet.of (vl := [some (.ref (G.1 t))]) (by decide) hG (Nat.le_of_ble_eq_true rfl) rfl ?_
  intro K X
  have X : Fx l G K cX5_countRedexes 3 RX5 ((some .int)) (rmR 2 42) := X
  have hlen := hT.len
  have ecl : cntP (rx T.1) 0 = 0 := rfl
  refine A_iconst (q := 1) X dX5_countRedexes_0 rfl ?_
  refine A_istore_n (q := 2) X dX5_countRedexes_1 (by decide) (okP_s rfl rfl) rfl ?_
  refine A_iconst (q := 3) X dX5_countRedexes_2 rfl ?_
  refine A_istore_n (q := 4) X dX5_countRedexes_3 (by decide) (okP_s rfl rfl) rfl ?_
  exact AW.loc (sS rfl (sZ rfl (by omega) (sZ rfl (by omega) sE))) (lp_X5_countRedexes X hG hT hgd _ 0 (Nat.lt_succ_self _) (Nat.zero_le _))
set_option maxRecDepth 100000 in
set_option maxHeartbeats 4000000 in
theorem lp_X5_nextRedex {l : Launch} {G : Gm} {K : Cx} {c : HP} {t ta : Nat} {T : List Int × Int} (X : Fx l G K cX5_nextRedex 3 RX5 ((some .int)) (rmR 2 42)) (hG : injG G) (hT : Tm G c t ta T) (hgd : Gd T.1) : ∀ (n : Nat) (i : Nat), T.1.length - i < n → i ≤ T.1.length → (∀ j, j < i → ¬ rx T.1 j) → AW G K (Qi (fun v c' => v = zI (fnd (rx T.1) T.1.length) ∧ c' = c)) 2 (mkL [some (.ref (G.1 t)), none, some (.int (zI ((i : Nat) : Int)))]) [] c := by
  intro n
  induction n with
  | zero => intro i hmz; exact absurd hmz (Nat.not_lt_zero _)
  | succ n ih =>
    intro i hmz hi hj
    have hlen := hT.len
    refine A_iload_n (q := 3) X dX5_nextRedex_2 rfl rfl ?_
    refine A_aload_n (q := 4) X dX5_nextRedex_3 rfl rfl ?_
    refine A_V0i (q := 7) X (c_X6_length hG hT) mX6_length kX5_32 dX5_nextRedex_4 hT.lt hT.cell rfl (by decide) (Nat.le_of_ble_eq_true rfl) rfl (fun vq_3 cq_2 hq_1 => ?_)
    obtain ⟨rfl, hq_1⟩ := hq_1
    obtain rfl := hq_1.symm
    refine A_icmp_ge (q := 10) (t := 26) X dX5_nextRedex_7 (by omega) (by omega) rfl rfl (fun hb7 => ?_) (fun hb7 => ?_)
    · refine A_bipush (q := 28) X dX5_nextRedex_26 (by decide) rfl ?_
      exact A_ireturn X dX5_nextRedex_28 ⟨by rw [fnd_none (fun k hk => hj k (by omega))], rfl⟩
    · refine A_aload_n (q := 11) X dX5_nextRedex_10 rfl rfl ?_
      refine A_iload_n (q := 12) X dX5_nextRedex_11 rfl rfl ?_
      refine A_S2i (q := 15) X (c_X5_isRedex hG hT hgd (by omega)) mX5_isRedex kX5_36 dX5_nextRedex_12 (by decide) (Nat.le_of_ble_eq_true rfl) rfl (fun vq_6 cq_5 hq_4 => ?_)
      obtain ⟨rfl, hq_4⟩ := hq_4
      obtain rfl := hq_4.symm
      refine A_beq (q := 18) (t := 20) X dX5_nextRedex_15 rfl rfl (fun hb15 => ?_) (fun hb15 => ?_)
      · refine A_iinc (q := 23) X dX5_nextRedex_20 rfl (by decide) (okP_n rfl) rfl ?_
        refine A_goto (q := 2) X dX5_nextRedex_23 rfl ?_
        exact AW.loc (sS rfl (sN (sZ rfl (by omega) sE))) (ih (i + 1) (by omega) (by omega) (lt_s hj hb15))
      · refine A_iload_n (q := 19) X dX5_nextRedex_18 rfl rfl ?_
        exact A_ireturn X dX5_nextRedex_19 ⟨by rw [fnd_some hb15 hj (by omega)], rfl⟩
set_option maxRecDepth 100000 in
set_option maxHeartbeats 4000000 in
theorem c_X5_nextRedex {l : Launch} {G : Gm} {c : HP} {t ta : Nat} {T : List Int × Int} (hG : injG G) (hT : Tm G c t ta T) (hgd : Gd T.1) : AMet l G yX5_nextRedex cX5_nextRedex 3 ((some .int)) (rmR 2 42) [.ref (G.1 t), .int (zI 0)] c (Qi (fun v c' => v = zI (fnd (rx T.1) T.1.length) ∧ c' = c)) := by
  refine AMet.of (vl := [some (.ref (G.1 t)), some (.int (zI 0))]) (by decide) hG (Nat.le_of_ble_eq_true rfl) rfl ?_
  intro K X
  have X : Fx l G K cX5_nextRedex 3 RX5 ((some .int)) (rmR 2 42) := X
  have hlen := hT.len
  refine A_iload_n (q := 1) X dX5_nextRedex_0 rfl rfl ?_
  refine A_istore_n (q := 2) X dX5_nextRedex_1 (by decide) (okP_s rfl rfl) rfl ?_
  exact AW.loc (sS rfl (sN (sZ rfl (by omega) sE))) (lp_X5_nextRedex X hG hT hgd _ 0 (Nat.lt_succ_self _) (Nat.zero_le _) lt_0)
theorem cntP_mono {P : Nat → Prop} [DecidablePred P] {m : Nat} : ∀ {n : Nat}, m ≤ n → cntP P m ≤ cntP P n
  | 0, h => by
    have : m = 0 := by omega
    subst this
    exact Nat.le_refl _
  | n + 1, h => by
    by_cases e : m = n + 1
    · subst e
      exact Nat.le_refl _
    · have ih := cntP_mono (P := P) (n := n) (show m ≤ n by omega)
      show _ ≤ cntP P n + (if P n then 1 else 0)
      omega
theorem cntP_one {P : Nat → Prop} [DecidablePred P] {i j : Nat} (hi : P i) (hj : P j) (e : cntP P i = cntP P j) : i = j := by
  rcases Nat.lt_or_ge i j with q | q
  · have h1 := cntP_mono (P := P) (show i + 1 ≤ j by omega)
    rw [cntP_pos hi] at h1
    omega
  · rcases Nat.lt_or_ge j i with q2 | q2
    · have h1 := cntP_mono (P := P) (show j + 1 ≤ i by omega)
      rw [cntP_pos hj] at h1
      omega
    · omega
set_option maxRecDepth 100000 in
set_option maxHeartbeats 4000000 in
theorem lp_X5_numberedRedex {l : Launch} {G : Gm} {K : Cx} {c : HP} {t ta : Nat} {T : List Int × Int} {m : Nat} (X : Fx l G K cX5_numberedRedex 4 RX5 ((some .int)) (rmR 2 42)) (hG : injG G) (hT : Tm G c t ta T) (hgd : Gd T.1) (hm : m < cntP (rx T.1) T.1.length) : ∀ (n : Nat) (i : Nat), T.1.length - i < n → i ≤ T.1.length → cntP (rx T.1) i ≤ m → AW G K (Qi (fun v c' => (∃ k : Nat, k < T.1.length ∧ v = zI (k : Nat) ∧ rx T.1 k ∧ cntP (rx T.1) k = m) ∧ c' = c)) 4 (mkL [some (.ref (G.1 t)), some (.int (zI ((m : Nat) : Int))), some (.int (zI (((cntP (rx T.1) i) : Nat) : Int))), some (.int (zI ((i : Nat) : Int)))]) [] c := by
  intro n
  induction n with
  | zero => intro i hmz; exact absurd hmz (Nat.not_lt_zero _)
  | succ n ih =>
    intro i hmz hi hc
    have hlen := hT.len
    have ecl := cntP_le (rx T.1) i
    have ecl2 := cntP_le (rx T.1) T.1.length
    refine A_iload_n (q := 5) X dX5_numberedRedex_4 rfl rfl ?_
    refine A_aload_n (q := 6) X dX5_numberedRedex_5 rfl rfl ?_
    refine A_V0i (q := 9) X (c_X6_length hG hT) mX6_length kX5_32 dX5_numberedRedex_6 hT.lt hT.cell rfl (by decide) (Nat.le_of_ble_eq_true rfl) rfl (fun vq_3 cq_2 hq_1 => ?_)
    obtain ⟨rfl, hq_1⟩ := hq_1
    obtain rfl := hq_1.symm
    refine A_icmp_ge (q := 12) (t := 36) X dX5_numberedRedex_9 (by omega) (by omega) rfl rfl (fun hb9 => ?_) (fun hb9 => ?_)
    · refine A_bipush (q := 38) X dX5_numberedRedex_36 (by decide) rfl ?_
      exfalso
      have := cntP_mono (P := rx T.1) (m := T.1.length) (n := i) (by omega)
      omega
    · refine A_aload_n (q := 13) X dX5_numberedRedex_12 rfl rfl ?_
      refine A_iload_n (q := 14) X dX5_numberedRedex_13 rfl rfl ?_
      refine A_S2i (q := 17) X (c_X5_isRedex hG hT hgd (by omega)) mX5_isRedex kX5_36 dX5_numberedRedex_14 (by decide) (Nat.le_of_ble_eq_true rfl) rfl (fun vq_6 cq_5 hq_4 => ?_)
      obtain ⟨rfl, hq_4⟩ := hq_4
      obtain rfl := hq_4.symm
      refine A_beq (q := 20) (t := 30) X dX5_numberedRedex_17 rfl rfl (fun hb17 => ?_) (fun hb17 => ?_)
      · refine A_iinc (q := 33) X dX5_numberedRedex_30 rfl (by decide) (okP_s rfl rfl) rfl ?_
        refine A_goto (q := 4) X dX5_numberedRedex_33 rfl ?_
        have ec := cntP_neg (P := rx T.1) (n := i) hb17
        exact AW.loc (sS rfl (sS rfl (sZ rfl (by omega) (sZ rfl (by omega) sE)))) (ih (i + 1) (by omega) (by omega) (by omega))
      · refine A_iload_n (q := 21) X dX5_numberedRedex_20 rfl rfl ?_
        refine A_iload_n (q := 22) X dX5_numberedRedex_21 rfl rfl ?_
        refine A_icmp_ne (q := 25) (t := 27) X dX5_numberedRedex_22 (by omega) (by omega) rfl rfl (fun hb22 => ?_) (fun hb22 => ?_)
        · refine A_iinc (q := 30) X dX5_numberedRedex_27 rfl (by decide) (okP_s rfl rfl) rfl ?_
          refine A_iinc (q := 33) X dX5_numberedRedex_30 rfl (by decide) (okP_s rfl rfl) rfl ?_
          refine A_goto (q := 4) X dX5_numberedRedex_33 rfl ?_
          have ec := cntP_pos (P := rx T.1) (n := i) hb17
          exact AW.loc (sS rfl (sS rfl (sZ rfl (by omega) (sZ rfl (by omega) sE)))) (ih (i + 1) (by omega) (by omega) (by omega))
        · refine A_iload_n (q := 26) X dX5_numberedRedex_25 rfl rfl ?_
          exact A_ireturn X dX5_numberedRedex_26 ⟨⟨i, by omega, rfl, hb17, by omega⟩, rfl⟩
set_option maxRecDepth 100000 in
set_option maxHeartbeats 4000000 in
theorem c_X5_numberedRedex {l : Launch} {G : Gm} {c : HP} {t ta : Nat} {T : List Int × Int} {m : Nat} (hG : injG G) (hT : Tm G c t ta T) (hgd : Gd T.1) (hm : m < cntP (rx T.1) T.1.length) : AMet l G yX5_numberedRedex cX5_numberedRedex 4 ((some .int)) (rmR 2 42) [.ref (G.1 t), .int (zI ((m : Nat) : Int))] c (Qi (fun v c' => (∃ k : Nat, k < T.1.length ∧ v = zI (k : Nat) ∧ rx T.1 k ∧ cntP (rx T.1) k = m) ∧ c' = c)) := by
  refine AMet.of (vl := [some (.ref (G.1 t)), some (.int (zI ((m : Nat) : Int)))]) (by decide) hG (Nat.le_of_ble_eq_true rfl) rfl ?_
  intro K X
  have X : Fx l G K cX5_numberedRedex 4 RX5 ((some .int)) (rmR 2 42) := X
  have hlen := hT.len
  have ecl : cntP (rx T.1) 0 = 0 := rfl
  refine A_iconst (q := 1) X dX5_numberedRedex_0 rfl ?_
  refine A_istore_n (q := 2) X dX5_numberedRedex_1 (by decide) (okP_s rfl rfl) rfl ?_
  refine A_iconst (q := 3) X dX5_numberedRedex_2 rfl ?_
  refine A_istore_n (q := 4) X dX5_numberedRedex_3 (by decide) (okP_s rfl rfl) rfl ?_
  exact AW.loc (sS rfl (sS rfl (sZ rfl (by omega) (sZ rfl (by omega) sE)))) (lp_X5_numberedRedex X hG hT hgd hm _ 0 (Nat.lt_succ_self _) (Nat.zero_le _) (Nat.zero_le _))
set_option maxRecDepth 100000 in
set_option maxHeartbeats 4000000 in
theorem lp_X5_lastRedex {l : Launch} {G : Gm} {K : Cx} {c : HP} {t ta : Nat} {T : List Int × Int} (X : Fx l G K cX5_lastRedex 2 RX5 ((some .int)) (rmR 2 42)) (hG : injG G) (hT : Tm G c t ta T) (hgd : Gd T.1) : ∀ (n : Nat) (i : Nat), i < n → i ≤ T.1.length → (∀ j, i ≤ j → j < T.1.length → ¬ rx T.1 j) → AW G K (Qi (fun v c' => v = zI (lst (rx T.1) T.1.length) ∧ c' = c)) 7 (mkL [some (.ref (G.1 t)), some (.int (zI (((i : Nat) : Int) - 1)))]) [] c := by
  intro n
  induction n with
  | zero => intro i hmz; exact absurd hmz (Nat.not_lt_zero _)
  | succ n ih =>
    intro i hmz hi hj
    have hlen := hT.len
    refine A_iload_n (q := 8) X dX5_lastRedex_7 rfl rfl ?_
    refine A_if_lt (q := 11) (t := 27) X dX5_lastRedex_8 (by omega) rfl rfl (fun hb8 => ?_) (fun hb8 => ?_)
    · refine A_bipush (q := 29) X dX5_lastRedex_27 (by decide) rfl ?_
      exact A_ireturn X dX5_lastRedex_29 ⟨by rw [lst_none (fun k hk => hj k (by omega) hk)], rfl⟩
    · obtain ⟨i2, rfl⟩ : ∃ i2, i = i2 + 1 := ⟨i - 1, by omega⟩
      refine A_aload_n (q := 12) X dX5_lastRedex_11 rfl rfl ?_
      refine A_iload_n (q := 13) X dX5_lastRedex_12 rfl rfl ?_
      refine A_S2i (q := 16) X (c_X5_isRedex hG hT hgd (by omega)) mX5_isRedex kX5_36 dX5_lastRedex_13 (by decide) (Nat.le_of_ble_eq_true rfl) rfl (fun vq_3 cq_2 hq_1 => ?_)
      obtain ⟨rfl, hq_1⟩ := hq_1
      obtain rfl := hq_1.symm
      refine A_beq (q := 19) (t := 21) X dX5_lastRedex_16 rfl rfl (fun hb16 => ?_) (fun hb16 => ?_)
      · refine A_iinc (q := 24) X dX5_lastRedex_21 rfl (by decide) (okP_s rfl rfl) rfl ?_
        refine A_goto (q := 7) X dX5_lastRedex_24 rfl ?_
        exact AW.loc (sS rfl (sZ rfl (by omega) sE)) (ih i2 (by omega) (by omega) (fun j h1 h2 => by by_cases e : j = i2; (subst e; have := hb16; rw [show (((j + 1 : Nat) : Int) - 1) = ((j : Nat) : Int) by omega] at this; exact this); exact hj j (by omega) h2))
      · refine A_iload_n (q := 20) X dX5_lastRedex_19 rfl rfl ?_
        exact A_ireturn X dX5_lastRedex_20 ⟨by rw [lst_some (k := i2) (by have := hb16; rw [show (((i2 + 1 : Nat) : Int) - 1) = ((i2 : Nat) : Int) by omega] at this; exact this) (by omega) (fun j h1 h2 => hj j (by omega) h2), show (((i2 + 1 : Nat) : Int) - 1) = ((i2 : Nat) : Int) by omega], rfl⟩
set_option maxRecDepth 100000 in
set_option maxHeartbeats 4000000 in
theorem c_X5_lastRedex {l : Launch} {G : Gm} {c : HP} {t ta : Nat} {T : List Int × Int} (hG : injG G) (hT : Tm G c t ta T) (hgd : Gd T.1) : AMet l G yX5_lastRedex cX5_lastRedex 2 ((some .int)) (rmR 2 42) [.ref (G.1 t)] c (Qi (fun v c' => v = zI (lst (rx T.1) T.1.length) ∧ c' = c)) := by
  refine AMet.of (vl := [some (.ref (G.1 t))]) (by decide) hG (Nat.le_of_ble_eq_true rfl) rfl ?_
  intro K X
  have X : Fx l G K cX5_lastRedex 2 RX5 ((some .int)) (rmR 2 42) := X
  have hlen := hT.len
  refine A_aload_n (q := 1) X dX5_lastRedex_0 rfl rfl ?_
  refine A_V0i (q := 4) X (c_X6_length hG hT) mX6_length kX5_32 dX5_lastRedex_1 hT.lt hT.cell rfl (by decide) (Nat.le_of_ble_eq_true rfl) rfl (fun vq_3 cq_2 hq_1 => ?_)
  obtain ⟨rfl, hq_1⟩ := hq_1
  obtain rfl := hq_1.symm
  refine A_iconst (q := 5) X dX5_lastRedex_4 rfl ?_
  refine A_isub (q := 6) X dX5_lastRedex_5 rfl ?_
  refine A_istore_n (q := 7) X dX5_lastRedex_6 (by decide) (okP_s rfl rfl) rfl ?_
  exact AW.loc (sS rfl (sZ rfl (by omega) sE)) (lp_X5_lastRedex X hG hT hgd _ T.1.length (Nat.lt_succ_self _) (Nat.le_refl _) (fun j h1 h2 => absurd h2 (by omega)))
set_option maxRecDepth 100000 in
set_option maxHeartbeats 4000000 in
theorem lp_X5_weakHead {l : Launch} {G : Gm} {K : Cx} {c : HP} {t ta : Nat} {T : List Int × Int} (X : Fx l G K cX5_weakHead 2 RX5 ((some .int)) (rmR 2 42)) (hG : injG G) (hT : Tm G c t ta T) (hgd : Gd T.1) : ∀ (n : Nat) (i : Nat), T.1.length - i < n → i ≤ T.1.length → (∀ j : Nat, j < i → tokA T.1 (j : Nat) = 1000 ∧ ¬ rx T.1 j) → AW G K (Qi (fun v c' => v = zI (fnd (whP T.1) T.1.length) ∧ c' = c)) 2 (mkL [some (.ref (G.1 t)), some (.int (zI ((i : Nat) : Int)))]) [] c := by
  intro n
  induction n with
  | zero => intro i hmz; exact absurd hmz (Nat.not_lt_zero _)
  | succ n ih =>
    intro i hmz hi hj
    have hlen := hT.len
    refine A_iload_n (q := 3) X dX5_weakHead_2 rfl rfl ?_
    refine A_aload_n (q := 4) X dX5_weakHead_3 rfl rfl ?_
    refine A_V0i (q := 7) X (c_X6_length hG hT) mX6_length kX5_32 dX5_weakHead_4 hT.lt hT.cell rfl (by decide) (Nat.le_of_ble_eq_true rfl) rfl (fun vq_3 cq_2 hq_1 => ?_)
    obtain ⟨rfl, hq_1⟩ := hq_1
    obtain rfl := hq_1.symm
    refine A_icmp_ge (q := 10) (t := 37) X dX5_weakHead_7 (by omega) (by omega) rfl rfl (fun hb7 => ?_) (fun hb7 => ?_)
    · refine A_bipush (q := 39) X dX5_weakHead_37 (by decide) rfl ?_
      exact A_ireturn X dX5_weakHead_39 ⟨by rw [fnd_none (fun k hk hw => (hj k (by omega)).2 hw.1)], rfl⟩
    · refine A_aload_n (q := 11) X dX5_weakHead_10 rfl rfl ?_
      refine A_iload_n (q := 12) X dX5_weakHead_11 rfl rfl ?_
      refine A_V1i (q := 15) X (c_X6_token hG hT (by omega)) mX6_token kX5_28 dX5_weakHead_12 hT.lt hT.cell rfl (by decide) (Nat.le_of_ble_eq_true rfl) rfl (fun vq_6 cq_5 hq_4 => ?_)
      obtain ⟨rfl, hq_4⟩ := hq_4
      obtain rfl := hq_4.symm
      have q1 := Gd_tokA hgd ((i : Nat) : Int)
      refine A_sipush (q := 18) X dX5_weakHead_15 (by decide) rfl ?_
      refine A_icmp_ne (q := 21) (t := 37) X dX5_weakHead_18 (by omega) (by decide) rfl rfl (fun hb18 => ?_) (fun hb18 => ?_)
      · refine A_bipush (q := 39) X dX5_weakHead_37 (by decide) rfl ?_
        exact A_ireturn X dX5_weakHead_39 ⟨by rw [fnd_none (fun k hk hw => by rcases Nat.lt_or_ge k i with q | q; (exact (hj k q).2 hw.1); (by_cases e : k = i; (subst e; exact hb18 hw.1.1); exact hb18 (hw.2 i (by omega))))], rfl⟩
      · refine A_aload_n (q := 22) X dX5_weakHead_21 rfl rfl ?_
        refine A_iload_n (q := 23) X dX5_weakHead_22 rfl rfl ?_
        refine A_S2i (q := 26) X (c_X5_isRedex hG hT hgd (by omega)) mX5_isRedex kX5_36 dX5_weakHead_23 (by decide) (Nat.le_of_ble_eq_true rfl) rfl (fun vq_9 cq_8 hq_7 => ?_)
        obtain ⟨rfl, hq_7⟩ := hq_7
        obtain rfl := hq_7.symm
        refine A_beq (q := 29) (t := 31) X dX5_weakHead_26 rfl rfl (fun hb26 => ?_) (fun hb26 => ?_)
        · refine A_iinc (q := 34) X dX5_weakHead_31 rfl (by decide) (okP_s rfl rfl) rfl ?_
          refine A_goto (q := 2) X dX5_weakHead_34 rfl ?_
          exact AW.loc (sS rfl (sZ rfl (by omega) sE)) (ih (i + 1) (by omega) (by omega) (lt_s hj ⟨by omega, hb26⟩))
        · refine A_iload_n (q := 30) X dX5_weakHead_29 rfl rfl ?_
          exact A_ireturn X dX5_weakHead_30 ⟨by rw [fnd_some (k := i) ⟨hb26, fun j hjj => (hj j hjj).1⟩ (fun j hjj hw => (hj j hjj).2 hw.1) (by omega)], rfl⟩
set_option maxRecDepth 100000 in
set_option maxHeartbeats 4000000 in
theorem c_X5_weakHead {l : Launch} {G : Gm} {c : HP} {t ta : Nat} {T : List Int × Int} (hG : injG G) (hT : Tm G c t ta T) (hgd : Gd T.1) : AMet l G yX5_weakHead cX5_weakHead 2 ((some .int)) (rmR 2 42) [.ref (G.1 t)] c (Qi (fun v c' => v = zI (fnd (whP T.1) T.1.length) ∧ c' = c)) := by
  refine AMet.of (vl := [some (.ref (G.1 t))]) (by decide) hG (Nat.le_of_ble_eq_true rfl) rfl ?_
  intro K X
  have X : Fx l G K cX5_weakHead 2 RX5 ((some .int)) (rmR 2 42) := X
  have hlen := hT.len
  refine A_iconst (q := 1) X dX5_weakHead_0 rfl ?_
  refine A_istore_n (q := 2) X dX5_weakHead_1 (by decide) (okP_s rfl rfl) rfl ?_
  exact AW.loc (sS rfl (sZ rfl (by omega) sE)) (lp_X5_weakHead X hG hT hgd _ 0 (Nat.lt_succ_self _) (Nat.zero_le _) lt_0)
/-- what is known when i tokens are read: no redex yet; or the last one, not complete yet *)-/
def liI (l : List Int) (i : Nat) (cand miss : Int) : Prop := (cand = -9 ∧ (∀ j, j < i → ¬ rx l j) ∧ -(i : Nat) ≤ miss ∧ miss ≤ (i : Nat)) ∨ ∃ q m : Nat, cand = (q : Nat) ∧ miss = (m : Nat) ∧ q < i ∧ rx l q ∧ (∀ j, q < j → j < i → ¬ rx l j) ∧ (∀ p, p < q → ¬ inn l p) ∧ 0 < m ∧ m ≤ i + 1 ∧ en l q = i + sk (l.drop i) m
theorem liI_step {l : List Int} {i q m : Nat} (hi : i < l.length) (hm : 0 < m) (he : en l q = i + sk (l.drop i) m) : en l q = (i + 1) + sk (l.drop (i + 1)) (m - 1 + prt (l.getD i 0)) := by
  obtain ⟨m2, rfl⟩ : ∃ m2, m = m2 + 1 := ⟨m - 1, by omega⟩
  rw [he, drop_cons hi]
  show i + (1 + sk (l.drop (i + 1)) (m2 + prt (l.getD i 0))) = _
  rw [show m2 + 1 - 1 + prt (l.getD i 0) = m2 + prt (l.getD i 0) by omega]
  omega
theorem pA_prt {l : List Int} (h : Gd l) {i : Nat} (hi : i < l.length) : pA (l.getD i 0) = (prt (l.getD i 0) : Nat) := by
  have := h.at2 hi
  unfold pA prt
  rcases this with e | e | e
  · rw [e]; rfl
  · rw [e]; rfl
  · rw [if_neg (by omega), if_neg (by omega), if_neg (by omega), if_neg (by omega), if_neg (by omega)]; rfl
theorem prt_le {l : List Int} (h : Gd l) {i : Nat} (hi : i < l.length) : prt (l.getD i 0) ≤ 2 := by
  have := h.at2 hi
  unfold prt
  rcases this with e | e | e
  · rw [e]; decide
  · rw [e]; decide
  · rw [if_neg (by omega), if_neg (by omega), if_neg (by omega)]; decide
theorem li_done {l : List Int} {q : Nat} (hq : q < l.length) (hr : rx l q) (hb : ∀ j, q < j → j < en l q → ¬ rx l j) (hp : ∀ p, p < q → ¬ inn l p) : fnd (inn l) l.length = (q : Nat) := fnd_some ⟨hr, fun j h1 h2 => hb j h2 h1⟩ hp hq
/-- the candidate behind token i, before its parts are counted -/
theorem liI_cand {l : List Int} (h : Gd l) {i : Nat} {cand miss : Int} (hi : i < l.length) (hI : liI l i cand miss) (hr : rx l i) : (∀ p, p < i → ¬ inn l p) ∧ en l i = i + sk (l.drop i) 1 := by
  refine ⟨fun p hp hin => ?_, rfl⟩
  rcases hI with ⟨-, h1, -⟩ | ⟨q, m, -, -, h1, h2, h3, h4, h5, -, h6⟩
  · exact h1 p hp hin.1
  · rcases Nat.lt_or_ge p q with g | g
    · exact h4 p g hin
    · by_cases e : p = q
      · subst e
        have h7 : i < en l p := by
          rw [h6]
          obtain ⟨m2, rfl⟩ : ∃ m2, m = m2 + 1 := ⟨m - 1, by omega⟩
          rw [drop_cons hi]
          show i < i + (1 + _)
          omega
        exact hin.2 i h7 hp hr
      · exact h3 p (by omega) hp hin.1
set_option maxRecDepth 100000 in
set_option maxHeartbeats 4000000 in
theorem lp_X5_leftmostInnermost {l : Launch} {G : Gm} {K : Cx} {c : HP} {t ta : Nat} {T : List Int × Int} (X : Fx l G K cX5_leftmostInnermost 4 RX5 ((some .int)) (rmR 2 42)) (hG : injG G) (hT : Tm G c t ta T) (hgd : Gd T.1) : ∀ (n : Nat) (i : Nat) (cand : Int) (miss : Int), T.1.length - i < n → i ≤ T.1.length → liI T.1 i cand miss → AW G K (Qi (fun v c' => v = zI (fnd (inn T.1) T.1.length) ∧ c' = c)) 7 (mkL [some (.ref (G.1 t)), some (.int (zI cand)), some (.int (zI miss)), some (.int (zI ((i : Nat) : Int)))]) [] c := by
  intro n
  induction n with
  | zero => intro i cand miss hmz; exact absurd hmz (Nat.not_lt_zero _)
  | succ n ih =>
    intro i cand miss hmz hi hI
    have hlen := hT.len
    refine A_iload_n (q := 8) X dX5_leftmostInnermost_7 rfl rfl ?_
    refine A_aload_n (q := 9) X dX5_leftmostInnermost_8 rfl rfl ?_
    refine A_V0i (q := 12) X (c_X6_length hG hT) mX6_length kX5_32 dX5_leftmostInnermost_9 hT.lt hT.cell rfl (by decide) (Nat.le_of_ble_eq_true rfl) rfl (fun vq_3 cq_2 hq_1 => ?_)
    obtain ⟨rfl, hq_1⟩ := hq_1
    obtain rfl := hq_1.symm
    refine A_icmp_ge (q := 15) (t := 58) X dX5_leftmostInnermost_12 (by omega) (by omega) rfl rfl (fun hb12 => ?_) (fun hb12 => ?_)
    · refine A_iload_n (q := 59) X dX5_leftmostInnermost_58 rfl rfl ?_
      refine A_ireturn X dX5_leftmostInnermost_59 ⟨?_, rfl⟩
      rcases hI with ⟨z1, z2, -⟩ | ⟨q, m, z1, z2, z3, z4, z5, z6, z7, z7b, z8⟩
      · rw [z1, fnd_none (fun k hk hw => z2 k (by omega) hw.1)]
      · have e9 : en T.1 q = T.1.length := by rw [z8, List.drop_eq_nil_of_le (by omega), sk_nil]; omega
        rw [z1, li_done (by omega) z4 (fun j h1 h2 => z5 j h1 (by omega)) z6]
    · have hil : i < T.1.length := by omega
      have hpl := prt_le hgd hil
      have hmr : -1000 ≤ miss ∧ miss ≤ 1000 ∧ -9 ≤ cand ∧ cand ≤ 1000 := by rcases hI with ⟨z1, z2, z3⟩ | ⟨q, m, z1, z2, z3, z4, z5, z6, z7, z7b, z8⟩ <;> omega
      have htk := Gd_tokA hgd ((i : Nat) : Int)
      have htk2 := hgd.at hil
      refine A_aload_n (q := 16) X dX5_leftmostInnermost_15 rfl rfl ?_
      refine A_iload_n (q := 17) X dX5_leftmostInnermost_16 rfl rfl ?_
      refine A_S2i (q := 20) X (c_X5_isRedex hG hT hgd (by omega)) mX5_isRedex kX5_36 dX5_leftmostInnermost_17 (by decide) (Nat.le_of_ble_eq_true rfl) rfl (fun vq_6 cq_5 hq_4 => ?_)
      obtain ⟨rfl, hq_4⟩ := hq_4
      obtain rfl := hq_4.symm
      refine A_beq (q := 23) (t := 27) X dX5_leftmostInnermost_20 rfl rfl (fun hb20 => ?_) (fun hb20 => ?_)
      · refine A_iload_n (q := 28) X dX5_leftmostInnermost_27 rfl rfl ?_
        refine A_aload_n (q := 29) X dX5_leftmostInnermost_28 rfl rfl ?_
        refine A_iload_n (q := 30) X dX5_leftmostInnermost_29 rfl rfl ?_
        refine A_V1i (q := 33) X (c_X6_token hG hT (by omega)) mX6_token kX5_28 dX5_leftmostInnermost_30 hT.lt hT.cell rfl (by decide) (Nat.le_of_ble_eq_true rfl) rfl (fun vq_9 cq_8 hq_7 => ?_)
        obtain ⟨rfl, hq_7⟩ := hq_7
        obtain rfl := hq_7.symm
        rw [tokA_in hil]
        refine A_N1i (q := 36) X (c_X8_parts hG (by omega)) mX8_parts (by decide +kernel) dX5_leftmostInnermost_33 (by decide) (Nat.le_of_ble_eq_true rfl) rfl (fun vq_12 cq_11 hq_10 => ?_)
        obtain ⟨rfl, hq_10⟩ := hq_10
        obtain rfl := hq_10.symm
        rw [pA_prt hgd hil]
        refine A_iconst (q := 37) X dX5_leftmostInnermost_36 rfl ?_
        refine A_isub (q := 38) X dX5_leftmostInnermost_37 rfl ?_
        refine A_iadd (q := 39) X dX5_leftmostInnermost_38 rfl ?_
        refine A_istore_n (q := 40) X dX5_leftmostInnermost_39 (by decide) (okP_s rfl rfl) rfl ?_
        refine A_iload_n (q := 41) X dX5_leftmostInnermost_40 rfl rfl ?_
        refine A_bipush (q := 43) X dX5_leftmostInnermost_41 (by decide) rfl ?_
        refine A_icmp_eq (q := 46) (t := 52) X dX5_leftmostInnermost_43 (by omega) (by decide) rfl rfl (fun hb43 => ?_) (fun hb43 => ?_)
        · refine A_iinc (q := 55) X dX5_leftmostInnermost_52 rfl (by decide) (okP_s rfl rfl) rfl ?_
          refine A_goto (q := 7) X dX5_leftmostInnermost_55 rfl ?_
          refine AW.loc (sS rfl (sS rfl (sZ rfl (by omega) (sZ rfl (by omega) sE)))) (ih (i + 1) cand (miss + (((prt (T.1.getD i 0) : Nat) : Int) - 1)) (by omega) (by omega) ?_)
          rcases hI with ⟨z1, z2, z3⟩ | ⟨q, m, z1, z2, z3, z4, z5, z6, z7, z7b, z8⟩
          · exact Or.inl ⟨z1, lt_s z2 hb20, by omega, by omega⟩
          · exact Or.inr ⟨q, m - 1 + prt (T.1.getD i 0), z1, by omega, by omega, z4, fun j h1 h2 => by by_cases e : j = i; (subst e; exact hb20); exact z5 j h1 (by omega), z6, by omega, by omega, liI_step hil z7 z8⟩
        · refine A_iload_n (q := 47) X dX5_leftmostInnermost_46 rfl rfl ?_
          refine A_if_ne (q := 50) (t := 52) X dX5_leftmostInnermost_47 (by omega) rfl rfl (fun hb47 => ?_) (fun hb47 => ?_)
          · refine A_iinc (q := 55) X dX5_leftmostInnermost_52 rfl (by decide) (okP_s rfl rfl) rfl ?_
            refine A_goto (q := 7) X dX5_leftmostInnermost_55 rfl ?_
            refine AW.loc (sS rfl (sS rfl (sZ rfl (by omega) (sZ rfl (by omega) sE)))) (ih (i + 1) cand (miss + (((prt (T.1.getD i 0) : Nat) : Int) - 1)) (by omega) (by omega) ?_)
            rcases hI with ⟨z1, z2, z3⟩ | ⟨q, m, z1, z2, z3, z4, z5, z6, z7, z7b, z8⟩
            · exact Or.inl ⟨z1, lt_s z2 hb20, by omega, by omega⟩
            · exact Or.inr ⟨q, m - 1 + prt (T.1.getD i 0), z1, by omega, by omega, z4, fun j h1 h2 => by by_cases e : j = i; (subst e; exact hb20); exact z5 j h1 (by omega), z6, by omega, by omega, liI_step hil z7 z8⟩
          · refine A_iload_n (q := 51) X dX5_leftmostInnermost_50 rfl rfl ?_
            refine A_ireturn X dX5_leftmostInnermost_51 ⟨?_, rfl⟩
            rcases hI with ⟨z1, -⟩ | ⟨q, m, z1, z2, z3, z4, z5, z6, z7, z7b, z8⟩
            · exact absurd z1 (by omega)
            have e9 := liI_step (l := T.1) (i := i) (q := q) (m := m) hil z7 z8
            have e10 : m - 1 + prt (T.1.getD i 0) = 0 := by omega
            rw [e10, sk_0] at e9
            rw [z1, li_done (by omega) z4 (fun j h1 h2 => by by_cases e : j = i; (subst e; exact hb20); exact z5 j h1 (by omega)) z6]
      · refine A_iload_n (q := 24) X dX5_leftmostInnermost_23 rfl rfl ?_
        refine A_istore_n (q := 25) X dX5_leftmostInnermost_24 (by decide) (okP_s rfl rfl) rfl ?_
        refine A_iconst (q := 26) X dX5_leftmostInnermost_25 rfl ?_
        refine A_istore_n (q := 27) X dX5_leftmostInnermost_26 (by decide) (okP_s rfl rfl) rfl ?_
        refine A_iload_n (q := 28) X dX5_leftmostInnermost_27 rfl rfl ?_
        refine A_aload_n (q := 29) X dX5_leftmostInnermost_28 rfl rfl ?_
        refine A_iload_n (q := 30) X dX5_leftmostInnermost_29 rfl rfl ?_
        refine A_V1i (q := 33) X (c_X6_token hG hT (by omega)) mX6_token kX5_28 dX5_leftmostInnermost_30 hT.lt hT.cell rfl (by decide) (Nat.le_of_ble_eq_true rfl) rfl (fun vq_15 cq_14 hq_13 => ?_)
        obtain ⟨rfl, hq_13⟩ := hq_13
        obtain rfl := hq_13.symm
        rw [tokA_in hil]
        refine A_N1i (q := 36) X (c_X8_parts hG (by omega)) mX8_parts (by decide +kernel) dX5_leftmostInnermost_33 (by decide) (Nat.le_of_ble_eq_true rfl) rfl (fun vq_18 cq_17 hq_16 => ?_)
        obtain ⟨rfl, hq_16⟩ := hq_16
        obtain rfl := hq_16.symm
        rw [pA_prt hgd hil]
        refine A_iconst (q := 37) X dX5_leftmostInnermost_36 rfl ?_
        refine A_isub (q := 38) X dX5_leftmostInnermost_37 rfl ?_
        refine A_iadd (q := 39) X dX5_leftmostInnermost_38 rfl ?_
        refine A_istore_n (q := 40) X dX5_leftmostInnermost_39 (by decide) (okP_s rfl rfl) rfl ?_
        refine A_iload_n (q := 41) X dX5_leftmostInnermost_40 rfl rfl ?_
        refine A_bipush (q := 43) X dX5_leftmostInnermost_41 (by decide) rfl ?_
        refine A_icmp_eq (q := 46) (t := 52) X dX5_leftmostInnermost_43 (by omega) (by decide) rfl rfl (fun hb43 => ?_) (fun hb43 => ?_)
        · refine A_iinc (q := 55) X dX5_leftmostInnermost_52 rfl (by decide) (okP_s rfl rfl) rfl ?_
          refine A_goto (q := 7) X dX5_leftmostInnermost_55 rfl ?_
          refine AW.loc (sS rfl (sS rfl (sZ rfl (by omega) (sZ rfl (by omega) sE)))) (ih (i + 1) ((i : Nat) : Int) (1 + ((prt (T.1.getD i 0) : Nat) : Int) - 1) (by omega) (by omega) (Or.inr ⟨i, 1 - 1 + prt (T.1.getD i 0), rfl, by omega, by omega, hb20, fun j h1 h2 => absurd h2 (by omega), (liI_cand hgd hil hI hb20).1, ?_, by omega, liI_step hil (by omega) rfl⟩))
          have e7 : T.1.getD i 0 = 1000 := (rx_lt hb20).2.1
          rw [e7]
          decide
        · refine A_iload_n (q := 47) X dX5_leftmostInnermost_46 rfl rfl ?_
          refine A_if_ne (q := 50) (t := 52) X dX5_leftmostInnermost_47 (by omega) rfl rfl (fun hb47 => ?_) (fun hb47 => ?_)
          · refine A_iinc (q := 55) X dX5_leftmostInnermost_52 rfl (by decide) (okP_s rfl rfl) rfl ?_
            refine A_goto (q := 7) X dX5_leftmostInnermost_55 rfl ?_
            refine AW.loc (sS rfl (sS rfl (sZ rfl (by omega) (sZ rfl (by omega) sE)))) (ih (i + 1) ((i : Nat) : Int) (1 + ((prt (T.1.getD i 0) : Nat) : Int) - 1) (by omega) (by omega) (Or.inr ⟨i, 1 - 1 + prt (T.1.getD i 0), rfl, by omega, by omega, hb20, fun j h1 h2 => absurd h2 (by omega), (liI_cand hgd hil hI hb20).1, ?_, by omega, liI_step hil (by omega) rfl⟩))
            have e7 : T.1.getD i 0 = 1000 := (rx_lt hb20).2.1
            rw [e7]
            decide
          · refine A_iload_n (q := 51) X dX5_leftmostInnermost_50 rfl rfl ?_
            refine A_ireturn X dX5_leftmostInnermost_51 ⟨?_, rfl⟩
            have e9 := liI_step (l := T.1) (i := i) (q := i) (m := 1) hil (by omega) rfl
            have e10 : 1 - 1 + prt (T.1.getD i 0) = 0 := by omega
            rw [e10, sk_0] at e9
            rw [li_done hil hb20 (fun j h1 h2 => absurd h2 (by omega)) (liI_cand hgd hil hI hb20).1]
set_option maxRecDepth 100000 in
set_option maxHeartbeats 4000000 in
theorem c_X5_leftmostInnermost {l : Launch} {G : Gm} {c : HP} {t ta : Nat} {T : List Int × Int} (hG : injG G) (hT : Tm G c t ta T) (hgd : Gd T.1) : AMet l G yX5_leftmostInnermost cX5_leftmostInnermost 4 ((some .int)) (rmR 2 42) [.ref (G.1 t)] c (Qi (fun v c' => v = zI (fnd (inn T.1) T.1.length) ∧ c' = c)) := by
  refine AMet.of (vl := [some (.ref (G.1 t))]) (by decide) hG (Nat.le_of_ble_eq_true rfl) rfl ?_
  intro K X
  have X : Fx l G K cX5_leftmostInnermost 4 RX5 ((some .int)) (rmR 2 42) := X
  have hlen := hT.len
  refine A_bipush (q := 2) X dX5_leftmostInnermost_0 (by decide) rfl ?_
  refine A_istore_n (q := 3) X dX5_leftmostInnermost_2 (by decide) (okP_s rfl rfl) rfl ?_
  refine A_iconst (q := 4) X dX5_leftmostInnermost_3 rfl ?_
  refine A_istore_n (q := 5) X dX5_leftmostInnermost_4 (by decide) (okP_s rfl rfl) rfl ?_
  refine A_iconst (q := 6) X dX5_leftmostInnermost_5 rfl ?_
  refine A_istore_n (q := 7) X dX5_leftmostInnermost_6 (by decide) (okP_s rfl rfl) rfl ?_
  exact AW.loc (sS rfl (sZ rfl (by omega) (sZ rfl (by omega) (sZ rfl (by omega) sE)))) (lp_X5_leftmostInnermost X hG hT hgd _ 0 (-9) 0 (Nat.lt_succ_self _) (Nat.zero_le _) (Or.inl ⟨rfl, lt_0, by decide, by decide⟩))
set_option maxRecDepth 100000 in
set_option maxHeartbeats 4000000 in
theorem c_X5_choose {l : Launch} {G : Gm} {c : HP} {t ta : Nat} {T : List Int × Int} {s : Int} (hG : injG G) (hT : Tm G c t ta T) (hgd : Gd T.1) (hs : rg s) : AMet l G yX5_choose cX5_choose 2 ((some .int)) (rmR 3 65) [.ref (G.1 t), .int (zI s)] c (Qi (fun v c' => v = zI (chz T.1 s) ∧ c' = c)) := by
  refine AMet.of (vl := [some (.ref (G.1 t)), some (.int (zI s))]) (by decide) hG (Nat.le_of_ble_eq_true rfl) rfl ?_
  intro K X
  have X : Fx l G K cX5_choose 2 RX5 ((some .int)) (rmR 3 65) := X
  refine A_iload_n (q := 1) X dX5_choose_0 rfl rfl ?_
  by_cases e1_0 : s = 0
  · refine A_tableIn (q := 32) (off := 31) X dX5_choose_1 (by omega) (by omega) (by omega) (by rw [e1_0]; rfl) rfl ?_
    refine A_aload_n (q := 33) X dX5_choose_32 rfl rfl ?_
    refine A_iconst (q := 34) X dX5_choose_33 rfl ?_
    refine A_S2i (q := 37) X (c_X5_nextRedex hG hT hgd) mX5_nextRedex kX5_40 dX5_choose_34 (by decide) (Nat.le_of_ble_eq_true rfl) rfl (fun vq_3 cq_2 hq_1 => ?_)
    obtain ⟨rfl, hq_1⟩ := hq_1
    obtain rfl := hq_1.symm
    exact A_ireturn X dX5_choose_37 ⟨by unfold chz; repeat (first | rw [if_pos (by omega)] | rw [if_neg (by omega)]), rfl⟩
  · skip
    by_cases e1_1 : s = 1
    · refine A_tableIn (q := 38) (off := 37) X dX5_choose_1 (by omega) (by omega) (by omega) (by rw [e1_1]; rfl) rfl ?_
      refine A_aload_n (q := 39) X dX5_choose_38 rfl rfl ?_
      refine A_S1i (q := 42) X (c_X5_leftmostInnermost hG hT hgd) mX5_leftmostInnermost kX5_44 dX5_choose_39 (by decide) (Nat.le_of_ble_eq_true rfl) rfl (fun vq_6 cq_5 hq_4 => ?_)
      obtain ⟨rfl, hq_4⟩ := hq_4
      obtain rfl := hq_4.symm
      exact A_ireturn X dX5_choose_42 ⟨by unfold chz; repeat (first | rw [if_pos (by omega)] | rw [if_neg (by omega)]), rfl⟩
    · skip
      by_cases e1_2 : s = 2
      · refine A_tableIn (q := 43) (off := 42) X dX5_choose_1 (by omega) (by omega) (by omega) (by rw [e1_2]; rfl) rfl ?_
        refine A_aload_n (q := 44) X dX5_choose_43 rfl rfl ?_
        refine A_S1i (q := 47) X (c_X5_lastRedex hG hT hgd) mX5_lastRedex kX5_48 dX5_choose_44 (by decide) (Nat.le_of_ble_eq_true rfl) rfl (fun vq_9 cq_8 hq_7 => ?_)
        obtain ⟨rfl, hq_7⟩ := hq_7
        obtain rfl := hq_7.symm
        exact A_ireturn X dX5_choose_47 ⟨by unfold chz; repeat (first | rw [if_pos (by omega)] | rw [if_neg (by omega)]), rfl⟩
      · skip
        by_cases e1_3 : s = 3
        · refine A_tableIn (q := 48) (off := 47) X dX5_choose_1 (by omega) (by omega) (by omega) (by rw [e1_3]; rfl) rfl ?_
          refine A_aload_n (q := 49) X dX5_choose_48 rfl rfl ?_
          refine A_S1i (q := 52) X (c_X5_weakHead hG hT hgd) mX5_weakHead kX5_51 dX5_choose_49 (by decide) (Nat.le_of_ble_eq_true rfl) rfl (fun vq_12 cq_11 hq_10 => ?_)
          obtain ⟨rfl, hq_10⟩ := hq_10
          obtain rfl := hq_10.symm
          exact A_ireturn X dX5_choose_52 ⟨by unfold chz; repeat (first | rw [if_pos (by omega)] | rw [if_neg (by omega)]), rfl⟩
        · skip
          refine A_tableOut (q := 53) X dX5_choose_1 (by omega) (by omega) rfl ?_
          refine A_bipush (q := 55) X dX5_choose_53 (by decide) rfl ?_
          exact A_ireturn X dX5_choose_55 ⟨by unfold chz; repeat (first | rw [if_pos (by omega)] | rw [if_neg (by omega)]), rfl⟩
