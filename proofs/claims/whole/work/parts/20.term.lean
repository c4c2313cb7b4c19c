/-! TERM: a row of at most 200 tokens, with a mark -/
def Tm (G : Gm) (c : HP) (h a : Nat) (T : List Int × Int) : Prop := h < G.2.1 ∧ a < G.2.1 ∧ h ≠ a ∧ T.1.length ≤ 200 ∧ (T.2 = 0 ∨ T.2 = 1) ∧ c h = .inr (6, [.ref (G.1 a), .int (zI (T.1.length : Nat)), .int (zI T.2)]) ∧ ∃ F : Nat → Int, c a = aI G 200 F ∧ ∀ k, k < T.1.length → F k = T.1.getD k 0
theorem Tm.keep {G : Gm} {c c' : HP} {h a : Nat} {T : List Int × Int} (q : Tm G c h a T) (e1 : c' h = c h) (e2 : c' a = c a) : Tm G c' h a T := by
  obtain ⟨h1, h2, h3, h4, h5, h6, F, h7, h8⟩ := q
  exact ⟨h1, h2, h3, h4, h5, e1.trans h6, F, e2.trans h7, h8⟩
theorem Tm.cell {G : Gm} {c : HP} {h a : Nat} {T : List Int × Int} (q : Tm G c h a T) : c h = .inr (6, [.ref (G.1 a), .int (zI (T.1.length : Nat)), .int (zI T.2)]) := q.2.2.2.2.2.1
theorem Tm.lt {G : Gm} {c : HP} {h a : Nat} {T : List Int × Int} (q : Tm G c h a T) : h < G.2.1 := q.1
theorem Tm.len {G : Gm} {c : HP} {h a : Nat} {T : List Int × Int} (q : Tm G c h a T) : T.1.length ≤ 200 := q.2.2.2.1
theorem Tm.b01 {G : Gm} {c : HP} {h a : Nat} {T : List Int × Int} (q : Tm G c h a T) : T.2 = 0 ∨ T.2 = 1 := q.2.2.2.2.1
def tAdd (T : List Int × Int) (t : Int) : List Int × Int := if T.1.length < 200 then (T.1 ++ [t], T.2) else (T.1, 1)
def tRange (T : List Int × Int) (l : List Int) (s e : Nat) : List Int × Int := if (e - s) + T.1.length ≤ 200 then (T.1 ++ (l.drop s).take (e - s), T.2) else (T.1, 1)
theorem getD_app_lt {l r : List Int} {k : Nat} (h : k < l.length) : (l ++ r).getD k 0 = l.getD k 0 := by
  simp only [List.getD_eq_getElem?_getD]
  rw [List.getElem?_append_left h]
theorem getD_app_ge {l r : List Int} {k : Nat} (h : l.length ≤ k) : (l ++ r).getD k 0 = r.getD (k - l.length) 0 := by
  simp only [List.getD_eq_getElem?_getD]
  rw [List.getElem?_append_right h]
theorem getD_range {l : List Int} {s n k : Nat} (h : k < n) : ((l.drop s).take n).getD k 0 = l.getD (s + k) 0 := by
  simp only [List.getD_eq_getElem?_getD]
  rw [List.getElem?_take_of_lt h, List.getElem?_drop]
set_option maxRecDepth 100000 in
set_option maxHeartbeats 4000000 in
theorem c_X6_length {l : Launch} {G : Gm} {c : HP} {h a : Nat} {T : List Int × Int} (hG : injG G) (hT : Tm G c h a T) : AMet l G yX6_length cX6_length 1 ((some .int)) (rmR 0 0) [.ref (G.1 h)] c (Qi (fun v c' => v = zI (T.1.length : Nat) ∧ c' = c)) := by
  refine AMet.of (vl := [some (.ref (G.1 h))]) (by decide) hG (Nat.le_of_ble_eq_true rfl) rfl ?_
  intro K X
  have X : Fx l G K cX6_length 1 RX6 ((some .int)) (rmR 0 0) := X
  obtain ⟨hN1, hN2, hne, hlen, hb01, hh, F, ha, hF⟩ := hT
  refine A_aload_n (q := 1) X dX6_length_0 rfl rfl ?_
  refine A_getf (q := 4) X fX6_15 dX6_length_1 hN1 hh rfl rfl ?_
  exact A_ireturn X dX6_length_4 ⟨rfl, rfl⟩
set_option maxRecDepth 100000 in
set_option maxHeartbeats 4000000 in
theorem c_X6_isTooLarge {l : Launch} {G : Gm} {c : HP} {h a : Nat} {T : List Int × Int} (hG : injG G) (hT : Tm G c h a T) : AMet l G yX6_isTooLarge cX6_isTooLarge 1 ((some .boolean)) (rmR 0 0) [.ref (G.1 h)] c (Qi (fun v c' => v = zI T.2 ∧ c' = c)) := by
  refine AMet.of (vl := [some (.ref (G.1 h))]) (by decide) hG (Nat.le_of_ble_eq_true rfl) rfl ?_
  intro K X
  have X : Fx l G K cX6_isTooLarge 1 RX6 ((some .boolean)) (rmR 0 0) := X
  obtain ⟨hN1, hN2, hne, hlen, hb01, hh, F, ha, hF⟩ := hT
  refine A_aload_n (q := 1) X dX6_isTooLarge_0 rfl rfl ?_
  refine A_getf (q := 4) X fX6_19 dX6_isTooLarge_1 hN1 hh rfl rfl ?_
  exact A_zreturn X dX6_isTooLarge_4 hb01 ⟨rfl, rfl⟩
set_option maxRecDepth 100000 in
set_option maxHeartbeats 4000000 in
theorem c_X6_has {l : Launch} {G : Gm} {c : HP} {h a : Nat} {T : List Int × Int} {p : Int} (hG : injG G) (hT : Tm G c h a T) (hp : rg p) : AMet l G yX6_has cX6_has 2 ((some .boolean)) (rmR 0 0) [.ref (G.1 h), .int (zI p)] c (Qi (fun v c' => v = zI (if 0 ≤ p ∧ p < (T.1.length : Nat) then 1 else 0) ∧ c' = c)) := by
  refine AMet.of (vl := [some (.ref (G.1 h)), some (.int (zI p))]) (by decide) hG (Nat.le_of_ble_eq_true rfl) rfl ?_
  intro K X
  have X : Fx l G K cX6_has 2 RX6 ((some .boolean)) (rmR 0 0) := X
  obtain ⟨hN1, hN2, hne, hlen, hb01, hh, F, ha, hF⟩ := hT
  refine A_iload_n (q := 1) X dX6_has_0 rfl rfl ?_
  refine A_if_lt (q := 4) (t := 16) X dX6_has_1 (by omega) rfl rfl (fun hb1 => ?_) (fun hb1 => ?_)
  · refine A_iconst (q := 17) X dX6_has_16 rfl ?_
    exact A_zreturn X dX6_has_17 (by decide) ⟨zb0 (by omega), rfl⟩
  · refine A_iload_n (q := 5) X dX6_has_4 rfl rfl ?_
    refine A_aload_n (q := 6) X dX6_has_5 rfl rfl ?_
    refine A_getf (q := 9) X fX6_15 dX6_has_6 hN1 hh rfl rfl ?_
    refine A_icmp_ge (q := 12) (t := 16) X dX6_has_9 (by omega) (by omega) rfl rfl (fun hb9 => ?_) (fun hb9 => ?_)
    · refine A_iconst (q := 17) X dX6_has_16 rfl ?_
      exact A_zreturn X dX6_has_17 (by decide) ⟨zb0 (by omega), rfl⟩
    · refine A_iconst (q := 13) X dX6_has_12 rfl ?_
      refine A_goto (q := 17) X dX6_has_13 rfl ?_
      exact A_zreturn X dX6_has_17 (by decide) ⟨zb1 (by omega), rfl⟩
set_option maxRecDepth 100000 in
set_option maxHeartbeats 4000000 in
theorem c_X6_token {l : Launch} {G : Gm} {c : HP} {h a : Nat} {T : List Int × Int} {p : Int} (hG : injG G) (hT : Tm G c h a T) (hp : rg p) : AMet l G yX6_token cX6_token 2 ((some .int)) (rmR 0 0) [.ref (G.1 h), .int (zI p)] c (Qi (fun v c' => v = zI (tokA T.1 p) ∧ c' = c)) := by
  refine AMet.of (vl := [some (.ref (G.1 h)), some (.int (zI p))]) (by decide) hG (Nat.le_of_ble_eq_true rfl) rfl ?_
  intro K X
  have X : Fx l G K cX6_token 2 RX6 ((some .int)) (rmR 0 0) := X
  obtain ⟨hN1, hN2, hne, hlen, hb01, hh, F, ha, hF⟩ := hT
  refine A_iload_n (q := 1) X dX6_token_0 rfl rfl ?_
  refine A_if_lt (q := 4) (t := 21) X dX6_token_1 (by omega) rfl rfl (fun hb1 => ?_) (fun hb1 => ?_)
  · refine A_iconst (q := 22) X dX6_token_21 rfl ?_
    exact A_ireturn X dX6_token_22 ⟨by unfold tokA; rw [if_neg (by omega)], rfl⟩
  · refine A_iload_n (q := 5) X dX6_token_4 rfl rfl ?_
    refine A_aload_n (q := 6) X dX6_token_5 rfl rfl ?_
    refine A_getf (q := 9) X fX6_15 dX6_token_6 hN1 hh rfl rfl ?_
    refine A_icmp_ge (q := 12) (t := 21) X dX6_token_9 (by omega) (by omega) rfl rfl (fun hb9 => ?_) (fun hb9 => ?_)
    · refine A_iconst (q := 22) X dX6_token_21 rfl ?_
      exact A_ireturn X dX6_token_22 ⟨by unfold tokA; rw [if_neg (by omega)], rfl⟩
    · refine A_aload_n (q := 13) X dX6_token_12 rfl rfl ?_
      refine A_getf (q := 16) X fX6_9 dX6_token_13 hN1 hh rfl rfl ?_
      refine A_iload_n (q := 17) X dX6_token_16 rfl rfl ?_
      refine A_iald (q := 18) (h := a) ((p).toNat) X dX6_token_17 hN2 ha (by omega) (by omega) (by decide) rfl ?_
      refine A_goto (q := 22) X dX6_token_18 rfl ?_
      exact A_ireturn X dX6_token_22 ⟨by unfold tokA; rw [if_pos (by omega), hF _ (by omega)], rfl⟩
set_option maxRecDepth 100000 in
set_option maxHeartbeats 4000000 in
theorem c_X6_clear {l : Launch} {G : Gm} {c : HP} {h a : Nat} {T : List Int × Int} (hG : injG G) (hT : Tm G c h a T) : AMet l G yX6_clear cX6_clear 1 (none) (rmR 0 0) [.ref (G.1 h)] c (Qv (fun c' => Tm G c' h a ([], 0) ∧ (∀ k, k ≠ h → k ≠ a → c' k = c k))) := by
  refine AMet.of (vl := [some (.ref (G.1 h))]) (by decide) hG (Nat.le_of_ble_eq_true rfl) rfl ?_
  intro K X
  have X : Fx l G K cX6_clear 1 RX6 (none) (rmR 0 0) := X
  obtain ⟨hN1, hN2, hne, hlen, hb01, hh, F, ha, hF⟩ := hT
  refine A_aload_n (q := 1) X dX6_clear_0 rfl rfl ?_
  refine A_iconst (q := 2) X dX6_clear_1 rfl ?_
  refine A_putf (q := 5) X pX6_15 dX6_clear_2 hN1 hh (Nat.le_of_ble_eq_true rfl) rfl rfl rfl ?_
  refine A_aload_n (q := 6) X dX6_clear_5 rfl rfl ?_
  refine A_iconst (q := 7) X dX6_clear_6 rfl ?_
  refine A_putf (q := 10) X pX6_19 dX6_clear_7 hN1 lk_eq (Nat.le_of_ble_eq_true rfl) (bz_ok (Or.inl rfl)).1 (bz_ok (Or.inl rfl)).2 rfl ?_
  exact A_return X dX6_clear_10 ⟨⟨hN1, hN2, hne, by decide, by decide, lk_eq, F, (lk_ne (by omega) (lk_ne (by omega) ha)), fun k hk => absurd hk (Nat.not_lt_zero k)⟩, (fun k n0 n1 => (lk_ne (by omega) (lk_ne (by omega) rfl)))⟩
set_option maxRecDepth 100000 in
set_option maxHeartbeats 4000000 in
theorem c_X6_add {l : Launch} {G : Gm} {c : HP} {h a : Nat} {T : List Int × Int} {t : Int} (hG : injG G) (hT : Tm G c h a T) : AMet l G yX6_add cX6_add 2 (none) (rmR 0 0) [.ref (G.1 h), .int (zI t)] c (Qv (fun c' => Tm G c' h a (tAdd T t) ∧ (∀ k, k ≠ h → k ≠ a → c' k = c k))) := by
  refine AMet.of (vl := [some (.ref (G.1 h)), some (.int (zI t))]) (by decide) hG (Nat.le_of_ble_eq_true rfl) rfl ?_
  intro K X
  have X : Fx l G K cX6_add 2 RX6 (none) (rmR 0 0) := X
  obtain ⟨hN1, hN2, hne, hlen, hb01, hh, F, ha, hF⟩ := hT
  refine A_aload_n (q := 1) X dX6_add_0 rfl rfl ?_
  refine A_getf (q := 4) X fX6_15 dX6_add_1 hN1 hh rfl rfl ?_
  refine A_sipush (q := 7) X dX6_add_4 (by decide) rfl ?_
  refine A_icmp_ge (q := 10) (t := 33) X dX6_add_7 (by omega) (by decide) rfl rfl (fun hb7 => ?_) (fun hb7 => ?_)
  · refine A_aload_n (q := 34) X dX6_add_33 rfl rfl ?_
    refine A_iconst (q := 35) X dX6_add_34 rfl ?_
    refine A_putf (q := 38) X pX6_19 dX6_add_35 hN1 hh (Nat.le_of_ble_eq_true rfl) (bz_ok (Or.inr rfl)).1 (bz_ok (Or.inr rfl)).2 rfl ?_
    refine A_return X dX6_add_38 ⟨?_, (fun k n0 n1 => (lk_ne (by omega) rfl))⟩
    unfold tAdd
    rw [if_neg (by omega)]
    exact ⟨hN1, hN2, hne, hlen, Or.inr rfl, lk_eq, F, (lk_ne (by omega) ha), hF⟩
  · refine A_aload_n (q := 11) X dX6_add_10 rfl rfl ?_
    refine A_getf (q := 14) X fX6_9 dX6_add_11 hN1 hh rfl rfl ?_
    refine A_aload_n (q := 15) X dX6_add_14 rfl rfl ?_
    refine A_getf (q := 18) X fX6_15 dX6_add_15 hN1 hh rfl rfl ?_
    refine A_iload_n (q := 19) X dX6_add_18 rfl rfl ?_
    refine A_iast (q := 20) (h := a) (T.1.length) X dX6_add_19 hN2 ha (by omega) (by omega) (by decide) rfl ?_
    refine A_aload_n (q := 21) X dX6_add_20 rfl rfl ?_
    refine A_dup (q := 22) X dX6_add_21 rfl rfl ?_
    refine A_getf (q := 25) X fX6_15 dX6_add_22 hN1 (lk_ne (by omega) hh) rfl rfl ?_
    refine A_iconst (q := 26) X dX6_add_25 rfl ?_
    refine A_iadd (q := 27) X dX6_add_26 rfl ?_
    refine A_putf (q := 30) X pX6_15 dX6_add_27 hN1 (lk_ne (by omega) hh) (Nat.le_of_ble_eq_true rfl) rfl rfl rfl ?_
    refine A_goto (q := 38) X dX6_add_30 rfl ?_
    refine A_return X dX6_add_38 ⟨?_, (fun k n0 n1 => (lk_ne (by omega) (lk_ne (by omega) rfl)))⟩
    unfold tAdd
    rw [if_pos (by omega)]
    refine ⟨hN1, hN2, hne, by simp only [List.length_append, List.length_singleton]; omega, hb01, lk_eq.trans (by simp only [List.length_append, List.length_singleton]; rfl), _, (lk_ne (by omega) lk_eq), fun k hk => ?_⟩
    simp only [List.length_append, List.length_singleton] at hk
    by_cases e : k = T.1.length
    · subst e
      rw [lk_eq, getD_app_ge (Nat.le_refl _), Nat.sub_self]
      rfl
    · rw [lk_ne e rfl, getD_app_lt (by omega)]
      exact hF k (by omega)
set_option maxRecDepth 100000 in
set_option maxHeartbeats 4000000 in
theorem c_X6_addRange {l : Launch} {G : Gm} {c : HP} {h a : Nat} {T : List Int × Int} {h2 a2 : Nat} {S : List Int × Int} {i j : Nat} (hG : injG G) (hT : Tm G c h a T) (hS : Tm G c h2 a2 S) (d1 : h ≠ h2) (d2 : h ≠ a2) (d3 : a ≠ h2) (d4 : a ≠ a2) (hi : i ≤ j) (hj : j ≤ S.1.length) : AMet l G yX6_addRange cX6_addRange 5 (none) (rmR 1 40) [.ref (G.1 h), .ref (G.1 h2), .int (zI ((i : Nat) : Int)), .int (zI ((j : Nat) : Int))] c (Qv (fun c' => Tm G c' h a (tRange T S.1 i j) ∧ (∀ k, k ≠ h → k ≠ a → c' k = c k))) := by
  refine AMet.of (vl := [some (.ref (G.1 h)), some (.ref (G.1 h2)), some (.int (zI ((i : Nat) : Int))), some (.int (zI ((j : Nat) : Int)))]) (by decide) hG (Nat.le_of_ble_eq_true rfl) rfl ?_
  intro K X
  have X : Fx l G K cX6_addRange 5 RX6 (none) (rmR 1 40) := X
  obtain ⟨hN1, hN2, hne, hlen, hb01, hh, F, ha, hF⟩ := hT
  obtain ⟨hM1, hM2, hme, hlem, hc01, hh2, F2, ha2, hF2⟩ := hS
  refine A_iload_n (q := 1) X dX6_addRange_0 rfl rfl ?_
  refine A_if_lt (q := 4) (t := 17) X dX6_addRange_1 (by omega) rfl rfl (fun hb1 => ?_) (fun hb1 => ?_)
  · exfalso
    omega
  · refine A_iload_n (q := 5) X dX6_addRange_4 rfl rfl ?_
    refine A_iload_n (q := 6) X dX6_addRange_5 rfl rfl ?_
    refine A_icmp_gt (q := 9) (t := 17) X dX6_addRange_6 (by omega) (by omega) rfl rfl (fun hb6 => ?_) (fun hb6 => ?_)
    · exfalso
      omega
    · refine A_iload_n (q := 10) X dX6_addRange_9 rfl rfl ?_
      refine A_aload_n (q := 11) X dX6_addRange_10 rfl rfl ?_
      refine A_getf (q := 14) X fX6_15 dX6_addRange_11 hM1 hh2 rfl rfl ?_
      refine A_icmp_le (q := 17) (t := 18) X dX6_addRange_14 (by omega) (by omega) rfl rfl (fun hb14 => ?_) (fun hb14 => ?_)
      · refine A_iload_n (q := 19) X dX6_addRange_18 rfl rfl ?_
        refine A_iload_n (q := 20) X dX6_addRange_19 rfl rfl ?_
        refine A_isub (q := 21) X dX6_addRange_20 rfl ?_
        refine A_istore (q := 23) X dX6_addRange_21 (by decide) (okP_s rfl rfl) rfl ?_
        refine A_iload (q := 25) X dX6_addRange_23 rfl rfl ?_
        refine A_sipush (q := 28) X dX6_addRange_25 (by decide) rfl ?_
        refine A_aload_n (q := 29) X dX6_addRange_28 rfl rfl ?_
        refine A_getf (q := 32) X fX6_15 dX6_addRange_29 hN1 hh rfl rfl ?_
        refine A_isub (q := 33) X dX6_addRange_32 rfl ?_
        refine A_icmp_le (q := 36) (t := 42) X dX6_addRange_33 (by omega) (by omega) rfl rfl (fun hb33 => ?_) (fun hb33 => ?_)
        · refine A_aload_n (q := 43) X dX6_addRange_42 rfl rfl ?_
          refine A_getf (q := 46) X fX6_9 dX6_addRange_43 hM1 hh2 rfl rfl ?_
          refine A_iload_n (q := 47) X dX6_addRange_46 rfl rfl ?_
          refine A_aload_n (q := 48) X dX6_addRange_47 rfl rfl ?_
          refine A_getf (q := 51) X fX6_9 dX6_addRange_48 hN1 hh rfl rfl ?_
          refine A_aload_n (q := 52) X dX6_addRange_51 rfl rfl ?_
          refine A_getf (q := 55) X fX6_15 dX6_addRange_52 hN1 hh rfl rfl ?_
          refine A_iload (q := 57) X dX6_addRange_55 rfl rfl ?_
          refine A_copy (q := 60) (i) (T.1.length) ((j) - (i)) X dX6_addRange_57 kX6_23 q_cp1 q_cp2 q_cp3 hM2 hN2 (ha2) (ha) (by omega) (by omega) (by omega) (by omega) (by omega) (by decide) (by decide) (by decide) (Nat.le_of_ble_eq_true rfl) rfl ?_
          refine A_aload_n (q := 61) X dX6_addRange_60 rfl rfl ?_
          refine A_dup (q := 62) X dX6_addRange_61 rfl rfl ?_
          refine A_getf (q := 65) X fX6_15 dX6_addRange_62 hN1 (lk_ne (by omega) hh) rfl rfl ?_
          refine A_iload (q := 67) X dX6_addRange_65 rfl rfl ?_
          refine A_iadd (q := 68) X dX6_addRange_67 rfl ?_
          refine A_putf (q := 71) X pX6_15 dX6_addRange_68 hN1 (lk_ne (by omega) hh) (Nat.le_of_ble_eq_true rfl) rfl rfl rfl ?_
          refine A_return X dX6_addRange_71 ⟨?_, (fun k n0 n1 => (lk_ne (by omega) (lk_ne (by omega) rfl)))⟩
          unfold tRange
          rw [if_pos (by omega)]
          have el : (T.1 ++ (S.1.drop i).take (j - i)).length = T.1.length + (j - i) := by rw [List.length_append, List.length_take, List.length_drop]; omega
          refine ⟨hN1, hN2, hne, by show (T.1 ++ (S.1.drop i).take (j - i)).length ≤ 200; omega, hb01, lk_eq.trans ?_, _, (lk_ne (by omega) lk_eq), fun k hk => ?_⟩
          · show Sum.inr _ = Sum.inr _
            have e2 : ((T.1.length : Nat) : Int) + (((j : Nat) : Int) - ((i : Nat) : Int)) = (((T.1 ++ (S.1.drop i).take (j - i)).length : Nat) : Int) := by rw [el]; omega
            rw [← e2]
            rfl
          · have hk2 : k < T.1.length + (j - i) := by rw [← el]; exact hk
            by_cases e : k < T.1.length
            · rw [pk_cpy_out (Or.inl e), getD_app_lt e]
              exact hF k e
            · rw [pk_cpy_in (by omega) (by omega), getD_app_ge (by omega), getD_range (by omega)]
              exact hF2 _ (by omega)
        · refine A_aload_n (q := 37) X dX6_addRange_36 rfl rfl ?_
          refine A_iconst (q := 38) X dX6_addRange_37 rfl ?_
          refine A_putf (q := 41) X pX6_19 dX6_addRange_38 hN1 hh (Nat.le_of_ble_eq_true rfl) (bz_ok (Or.inr rfl)).1 (bz_ok (Or.inr rfl)).2 rfl ?_
          refine A_return X dX6_addRange_41 ⟨?_, (fun k n0 n1 => (lk_ne (by omega) rfl))⟩
          unfold tRange
          rw [if_neg (by omega)]
          exact ⟨hN1, hN2, hne, hlen, Or.inr rfl, lk_eq, F, (lk_ne (by omega) ha), hF⟩
      · exfalso
        omega
set_option maxRecDepth 100000 in
set_option maxHeartbeats 4000000 in
theorem c_X6_copyFrom {l : Launch} {G : Gm} {c : HP} {h a : Nat} {T : List Int × Int} {h2 a2 : Nat} {S : List Int × Int} (hG : injG G) (hT : Tm G c h a T) (hS : Tm G c h2 a2 S) (d1 : h ≠ h2) (d2 : h ≠ a2) (d3 : a ≠ h2) (d4 : a ≠ a2) : AMet l G yX6_copyFrom cX6_copyFrom 2 (none) (rmR 1 40) [.ref (G.1 h), .ref (G.1 h2)] c (Qv (fun c' => Tm G c' h a S ∧ (∀ k, k ≠ h → k ≠ a → c' k = c k))) := by
  refine AMet.of (vl := [some (.ref (G.1 h)), some (.ref (G.1 h2))]) (by decide) hG (Nat.le_of_ble_eq_true rfl) rfl ?_
  intro K X
  have X : Fx l G K cX6_copyFrom 2 RX6 (none) (rmR 1 40) := X
  obtain ⟨hN1, hN2, hne, hlen, hb01, hh, F, ha, hF⟩ := hT
  obtain ⟨hM1, hM2, hme, hlem, hc01, hh2, F2, ha2, hF2⟩ := hS
  refine A_aload_n (q := 1) X dX6_copyFrom_0 rfl rfl ?_
  refine A_getf (q := 4) X fX6_9 dX6_copyFrom_1 hM1 hh2 rfl rfl ?_
  refine A_iconst (q := 5) X dX6_copyFrom_4 rfl ?_
  refine A_aload_n (q := 6) X dX6_copyFrom_5 rfl rfl ?_
  refine A_getf (q := 9) X fX6_9 dX6_copyFrom_6 hN1 hh rfl rfl ?_
  refine A_iconst (q := 10) X dX6_copyFrom_9 rfl ?_
  refine A_aload_n (q := 11) X dX6_copyFrom_10 rfl rfl ?_
  refine A_getf (q := 14) X fX6_15 dX6_copyFrom_11 hM1 hh2 rfl rfl ?_
  refine A_copy (q := 17) 0 0 (S.1.length) X dX6_copyFrom_14 kX6_23 q_cp1 q_cp2 q_cp3 hM2 hN2 (ha2) (ha) (by omega) (by omega) (by omega) (by omega) (by omega) (by decide) (by decide) (by decide) (Nat.le_of_ble_eq_true rfl) rfl ?_
  refine A_aload_n (q := 18) X dX6_copyFrom_17 rfl rfl ?_
  refine A_aload_n (q := 19) X dX6_copyFrom_18 rfl rfl ?_
  refine A_getf (q := 22) X fX6_15 dX6_copyFrom_19 hM1 (lk_ne (by omega) hh2) rfl rfl ?_
  refine A_putf (q := 25) X pX6_15 dX6_copyFrom_22 hN1 (lk_ne (by omega) hh) (Nat.le_of_ble_eq_true rfl) rfl rfl rfl ?_
  refine A_aload_n (q := 26) X dX6_copyFrom_25 rfl rfl ?_
  refine A_aload_n (q := 27) X dX6_copyFrom_26 rfl rfl ?_
  refine A_getf (q := 30) X fX6_19 dX6_copyFrom_27 hM1 (lk_ne (by omega) (lk_ne (by omega) hh2)) rfl rfl ?_
  refine A_putf (q := 33) X pX6_19 dX6_copyFrom_30 hN1 lk_eq (Nat.le_of_ble_eq_true rfl) (bz_ok (by omega)).1 (bz_ok (by omega)).2 rfl ?_
  refine A_return X dX6_copyFrom_33 ⟨⟨hN1, hN2, hne, hlem, hc01, lk_eq, _, (lk_ne (by omega) (lk_ne (by omega) lk_eq)), fun k hk => ?_⟩, (fun k n0 n1 => (lk_ne (by omega) (lk_ne (by omega) (lk_ne (by omega) rfl))))⟩
  rw [pk_cpy_in (Nat.zero_le _) (by omega), Nat.zero_add, Nat.sub_zero]
  exact hF2 k hk
set_option maxRecDepth 100000 in
set_option maxHeartbeats 4000000 in
theorem c_X6_wrapInAbstraction {l : Launch} {G : Gm} {c : HP} {h a : Nat} {T : List Int × Int} (hG : injG G) (hT : Tm G c h a T) : AMet l G yX6_wrapInAbstraction cX6_wrapInAbstraction 1 ((some .boolean)) (rmR 1 40) [.ref (G.1 h)] c (Qi (fun v c' => v = zI (if T.1.length < 200 then 1 else 0) ∧ (T.1.length < 200 → Tm G c' h a (1001 :: T.1, T.2)) ∧ (¬ T.1.length < 200 → c' = c) ∧ (∀ k, k ≠ h → k ≠ a → c' k = c k))) := by
  refine AMet.of (vl := [some (.ref (G.1 h))]) (by decide) hG (Nat.le_of_ble_eq_true rfl) rfl ?_
  intro K X
  have X : Fx l G K cX6_wrapInAbstraction 1 RX6 ((some .boolean)) (rmR 1 40) := X
  obtain ⟨hN1, hN2, hne, hlen, hb01, hh, F, ha, hF⟩ := hT
  refine A_aload_n (q := 1) X dX6_wrapInAbstraction_0 rfl rfl ?_
  refine A_getf (q := 4) X fX6_15 dX6_wrapInAbstraction_1 hN1 hh rfl rfl ?_
  refine A_sipush (q := 7) X dX6_wrapInAbstraction_4 (by decide) rfl ?_
  refine A_icmp_lt (q := 10) (t := 12) X dX6_wrapInAbstraction_7 (by omega) (by decide) rfl rfl (fun hb7 => ?_) (fun hb7 => ?_)
  · refine A_aload_n (q := 13) X dX6_wrapInAbstraction_12 rfl rfl ?_
    refine A_getf (q := 16) X fX6_9 dX6_wrapInAbstraction_13 hN1 hh rfl rfl ?_
    refine A_iconst (q := 17) X dX6_wrapInAbstraction_16 rfl ?_
    refine A_aload_n (q := 18) X dX6_wrapInAbstraction_17 rfl rfl ?_
    refine A_getf (q := 21) X fX6_9 dX6_wrapInAbstraction_18 hN1 hh rfl rfl ?_
    refine A_iconst (q := 22) X dX6_wrapInAbstraction_21 rfl ?_
    refine A_aload_n (q := 23) X dX6_wrapInAbstraction_22 rfl rfl ?_
    refine A_getf (q := 26) X fX6_15 dX6_wrapInAbstraction_23 hN1 hh rfl rfl ?_
    refine A_copy (q := 29) 0 1 (T.1.length) X dX6_wrapInAbstraction_26 kX6_23 q_cp1 q_cp2 q_cp3 hN2 hN2 (ha) (ha) (by omega) (by omega) (by omega) (by omega) (by omega) (by decide) (by decide) (by decide) (Nat.le_of_ble_eq_true rfl) rfl ?_
    refine A_aload_n (q := 30) X dX6_wrapInAbstraction_29 rfl rfl ?_
    refine A_getf (q := 33) X fX6_9 dX6_wrapInAbstraction_30 hN1 (lk_ne (by omega) hh) rfl rfl ?_
    refine A_iconst (q := 34) X dX6_wrapInAbstraction_33 rfl ?_
    refine A_sipush (q := 37) X dX6_wrapInAbstraction_34 (by decide) rfl ?_
    refine A_iast (q := 38) (h := a) 0 X dX6_wrapInAbstraction_37 hN2 lk_eq (by omega) (by omega) (by decide) rfl ?_
    refine A_aload_n (q := 39) X dX6_wrapInAbstraction_38 rfl rfl ?_
    refine A_dup (q := 40) X dX6_wrapInAbstraction_39 rfl rfl ?_
    refine A_getf (q := 43) X fX6_15 dX6_wrapInAbstraction_40 hN1 (lk_ne (by omega) (lk_ne (by omega) hh)) rfl rfl ?_
    refine A_iconst (q := 44) X dX6_wrapInAbstraction_43 rfl ?_
    refine A_iadd (q := 45) X dX6_wrapInAbstraction_44 rfl ?_
    refine A_putf (q := 48) X pX6_15 dX6_wrapInAbstraction_45 hN1 (lk_ne (by omega) (lk_ne (by omega) hh)) (Nat.le_of_ble_eq_true rfl) rfl rfl rfl ?_
    refine A_iconst (q := 49) X dX6_wrapInAbstraction_48 rfl ?_
    refine A_zreturn X dX6_wrapInAbstraction_49 (by decide) ⟨zb1 (by omega), fun _ => ?_, fun hk => absurd hk (by omega), (fun k n0 n1 => (lk_ne (by omega) (lk_ne (by omega) (lk_ne (by omega) rfl))))⟩
    refine ⟨hN1, hN2, hne, by show (1001 :: T.1).length ≤ 200; rw [List.length_cons]; omega, hb01, lk_eq, _, (lk_ne (by omega) lk_eq), fun k hk => ?_⟩
    have hk2 : k < T.1.length + 1 := hk
    by_cases e : k = 0
    · subst e
      rw [lk_eq]
      rfl
    · rw [lk_ne e rfl, pk_cpy_in (by omega) (by omega), hF _ (by omega)]
      obtain ⟨m, rfl⟩ : ∃ m, k = m + 1 := ⟨k - 1, by omega⟩
      rw [show 0 + (m + 1 - 1) = m by omega]
      rfl
  · refine A_iconst (q := 11) X dX6_wrapInAbstraction_10 rfl ?_
    exact A_zreturn X dX6_wrapInAbstraction_11 (by decide) ⟨zb0 (by omega), fun hk => absurd hk (by omega), fun _ => rfl, fun _ _ _ => rfl⟩
theorem list_eq_getD {l r : List Int} (h : l.length = r.length) (q : ∀ k, k < l.length → l.getD k 0 = r.getD k 0) : l = r := by
  apply List.ext_getElem h
  intro k h1 h2
  have := q k h1
  rwa [nI_get h1, nI_get h2] at this
set_option maxRecDepth 100000 in
set_option maxHeartbeats 4000000 in
theorem lp_X6_hasSameTokens {l : Launch} {G : Gm} {K : Cx} {c : HP} {h a h2 a2 : Nat} {T S : List Int × Int} {F F2 : Nat → Int} (X : Fx l G K cX6_hasSameTokens 3 RX6 ((some .boolean)) (rmR 0 0)) (hN1 : h < G.2.1) (hN2 : a < G.2.1) (hM1 : h2 < G.2.1) (hM2 : a2 < G.2.1) (hlen : T.1.length ≤ 200) (hle : T.1.length = S.1.length) (hh : c h = .inr (6, [.ref (G.1 a), .int (zI (T.1.length : Nat)), .int (zI T.2)])) (ha : c a = aI G 200 F) (hh2 : c h2 = .inr (6, [.ref (G.1 a2), .int (zI (S.1.length : Nat)), .int (zI S.2)])) (ha2 : c a2 = aI G 200 F2) (hF : ∀ k, k < T.1.length → F k = T.1.getD k 0) (hF2 : ∀ k, k < S.1.length → F2 k = S.1.getD k 0) (hr1 : ∀ k, k < T.1.length → rg (F k)) (hr2 : ∀ k, k < S.1.length → rg (F2 k))  : ∀ (n : Nat) (i : Nat), T.1.length - i < n → i ≤ T.1.length → (∀ k, k < i → F k = F2 k) → AW G K (Qi (fun v c' => v = zI (if T.1 = S.1 then 1 else 0) ∧ c' = c)) 15 (mkL [some (.ref (G.1 h)), some (.ref (G.1 h2)), some (.int (zI ((i : Nat) : Int)))]) [] c := by
  intro n
  induction n with
  | zero => intro i hmz; exact absurd hmz (Nat.not_lt_zero _)
  | succ n ih =>
    intro i hmz hi hi2
    refine A_iload_n (q := 16) X dX6_hasSameTokens_15 rfl rfl ?_
    refine A_aload_n (q := 17) X dX6_hasSameTokens_16 rfl rfl ?_
    refine A_getf (q := 20) X fX6_15 dX6_hasSameTokens_17 hN1 hh rfl rfl ?_
    refine A_icmp_ge (q := 23) (t := 46) X dX6_hasSameTokens_20 (by omega) (by omega) rfl rfl (fun hb20 => ?_) (fun hb20 => ?_)
    · refine A_iconst (q := 47) X dX6_hasSameTokens_46 rfl ?_
      exact A_zreturn X dX6_hasSameTokens_47 (by decide) ⟨zb1 (list_eq_getD (by omega) (fun k hk => by rw [← hF k hk, ← hF2 k (by omega)]; exact hi2 k (by omega))), rfl⟩
    · refine A_aload_n (q := 24) X dX6_hasSameTokens_23 rfl rfl ?_
      refine A_getf (q := 27) X fX6_9 dX6_hasSameTokens_24 hN1 hh rfl rfl ?_
      refine A_iload_n (q := 28) X dX6_hasSameTokens_27 rfl rfl ?_
      refine A_iald (q := 29) (h := a) (i) X dX6_hasSameTokens_28 hN2 ha (by omega) (by omega) (by decide) rfl ?_
      refine A_aload_n (q := 30) X dX6_hasSameTokens_29 rfl rfl ?_
      refine A_getf (q := 33) X fX6_9 dX6_hasSameTokens_30 hM1 hh2 rfl rfl ?_
      refine A_iload_n (q := 34) X dX6_hasSameTokens_33 rfl rfl ?_
      refine A_iald (q := 35) (h := a2) (i) X dX6_hasSameTokens_34 hM2 ha2 (by omega) (by omega) (by decide) rfl ?_
      have q1 := hr1 i (by omega)
      have q2 := hr2 i (by omega)
      refine A_icmp_eq (q := 38) (t := 40) X dX6_hasSameTokens_35 (by omega) (by omega) rfl rfl (fun hb35 => ?_) (fun hb35 => ?_)
      · refine A_iinc (q := 43) X dX6_hasSameTokens_40 rfl (by decide) (okP_s rfl rfl) rfl ?_
        refine A_goto (q := 15) X dX6_hasSameTokens_43 rfl ?_
        exact AW.loc (sS rfl (sS rfl (sZ rfl (by omega) sE))) (ih (i + 1) (by omega) (by omega) (lt_s hi2 (by omega)))
      · refine A_iconst (q := 39) X dX6_hasSameTokens_38 rfl ?_
        refine A_zreturn X dX6_hasSameTokens_39 (by decide) ⟨zb0 (fun e => ?_), rfl⟩
        have e1 := hF i (by omega)
        have e2 := hF2 i (by omega)
        rw [e] at e1
        omega
set_option maxRecDepth 100000 in
set_option maxHeartbeats 4000000 in
theorem c_X6_hasSameTokens {l : Launch} {G : Gm} {c : HP} {h a : Nat} {T : List Int × Int} {h2 a2 : Nat} {S : List Int × Int} (hG : injG G) (hT : Tm G c h a T) (hS : Tm G c h2 a2 S) (hr1 : ∀ k, k < T.1.length → rg (T.1.getD k 0)) (hr2 : ∀ k, k < S.1.length → rg (S.1.getD k 0)) : AMet l G yX6_hasSameTokens cX6_hasSameTokens 3 ((some .boolean)) (rmR 0 0) [.ref (G.1 h), .ref (G.1 h2)] c (Qi (fun v c' => v = zI (if T.1 = S.1 then 1 else 0) ∧ c' = c)) := by
  refine AMet.of (vl := [some (.ref (G.1 h)), some (.ref (G.1 h2))]) (by decide) hG (Nat.le_of_ble_eq_true rfl) rfl ?_
  intro K X
  have X : Fx l G K cX6_hasSameTokens 3 RX6 ((some .boolean)) (rmR 0 0) := X
  obtain ⟨hN1, hN2, hne, hlen, hb01, hh, F, ha, hF⟩ := hT
  obtain ⟨hM1, hM2, hme, hlem, hc01, hh2, F2, ha2, hF2⟩ := hS
  refine A_aload_n (q := 1) X dX6_hasSameTokens_0 rfl rfl ?_
  refine A_getf (q := 4) X fX6_15 dX6_hasSameTokens_1 hN1 hh rfl rfl ?_
  refine A_aload_n (q := 5) X dX6_hasSameTokens_4 rfl rfl ?_
  refine A_getf (q := 8) X fX6_15 dX6_hasSameTokens_5 hM1 hh2 rfl rfl ?_
  refine A_icmp_eq (q := 11) (t := 13) X dX6_hasSameTokens_8 (by omega) (by omega) rfl rfl (fun hb8 => ?_) (fun hb8 => ?_)
  · refine A_iconst (q := 14) X dX6_hasSameTokens_13 rfl ?_
    refine A_istore_n (q := 15) X dX6_hasSameTokens_14 (by decide) (okP_s rfl rfl) rfl ?_
    exact AW.loc (sS rfl (sS rfl (sZ rfl (by omega) sE))) (lp_X6_hasSameTokens X hN1 hN2 hM1 hM2 hlen (by omega) hh ha hh2 ha2 hF hF2 (fun k hk => by rw [hF k hk]; exact hr1 _ hk) (fun k hk => by rw [hF2 k hk]; exact hr2 _ hk) _ 0 (Nat.lt_succ_self _) (by omega) lt_0)
  · refine A_iconst (q := 12) X dX6_hasSameTokens_11 rfl ?_
    exact A_zreturn X dX6_hasSameTokens_12 (by decide) ⟨zb0 (fun e => by rw [e] at hb8; omega), rfl⟩
