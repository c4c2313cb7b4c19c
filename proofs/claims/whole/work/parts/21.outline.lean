/-! SMALL STATICS of the class -/
def pA (t : Int) : Int := if t = 1000 then 2 else if t = 1001 ∨ t = 1002 then 1 else 0
set_option maxRecDepth 100000 in
set_option maxHeartbeats 4000000 in
theorem c_X8_isVariable {l : Launch} {G : Gm} {c : HP} {t : Int} (hG : injG G) (ht : rg t) : AMet l G yX8_isVariable cX8_isVariable 1 ((some .boolean)) (rmR 0 0) [.int (zI t)] c (Qi (fun v c' => v = zI (if 0 ≤ t ∧ t < 1000 then 1 else 0) ∧ c' = c)) := by
  refine AMet.of (vl := [some (.int (zI t))]) (by decide) hG (Nat.le_of_ble_eq_true rfl) rfl ?_
  intro K X
  have X : Fx l G K cX8_isVariable 1 RX8 ((some .boolean)) (rmR 0 0) := X
  refine A_iload_n (q := 1) X dX8_isVariable_0 rfl rfl ?_
  refine A_if_lt (q := 4) (t := 15) X dX8_isVariable_1 (by omega) rfl rfl (fun hb1 => ?_) (fun hb1 => ?_)
  · refine A_iconst (q := 16) X dX8_isVariable_15 rfl ?_
    exact A_zreturn X dX8_isVariable_16 (by decide) ⟨zb0 (by omega), rfl⟩
  · refine A_iload_n (q := 5) X dX8_isVariable_4 rfl rfl ?_
    refine A_sipush (q := 8) X dX8_isVariable_5 (by decide) rfl ?_
    refine A_icmp_ge (q := 11) (t := 15) X dX8_isVariable_8 (by omega) (by decide) rfl rfl (fun hb8 => ?_) (fun hb8 => ?_)
    · refine A_iconst (q := 16) X dX8_isVariable_15 rfl ?_
      exact A_zreturn X dX8_isVariable_16 (by decide) ⟨zb0 (by omega), rfl⟩
    · refine A_iconst (q := 12) X dX8_isVariable_11 rfl ?_
      refine A_goto (q := 16) X dX8_isVariable_12 rfl ?_
      exact A_zreturn X dX8_isVariable_16 (by decide) ⟨zb1 (by omega), rfl⟩
set_option maxRecDepth 100000 in
set_option maxHeartbeats 4000000 in
theorem c_X8_isStrategy {l : Launch} {G : Gm} {c : HP} {t : Int} (hG : injG G) (ht : rg t) : AMet l G yX8_isStrategy cX8_isStrategy 1 ((some .boolean)) (rmR 0 0) [.int (zI t)] c (Qi (fun v c' => v = zI (if 0 ≤ t ∧ t < 4 then 1 else 0) ∧ c' = c)) := by
  refine AMet.of (vl := [some (.int (zI t))]) (by decide) hG (Nat.le_of_ble_eq_true rfl) rfl ?_
  intro K X
  have X : Fx l G K cX8_isStrategy 1 RX8 ((some .boolean)) (rmR 0 0) := X
  refine A_iload_n (q := 1) X dX8_isStrategy_0 rfl rfl ?_
  refine A_if_lt (q := 4) (t := 13) X dX8_isStrategy_1 (by omega) rfl rfl (fun hb1 => ?_) (fun hb1 => ?_)
  · refine A_iconst (q := 14) X dX8_isStrategy_13 rfl ?_
    exact A_zreturn X dX8_isStrategy_14 (by decide) ⟨zb0 (by omega), rfl⟩
  · refine A_iload_n (q := 5) X dX8_isStrategy_4 rfl rfl ?_
    refine A_iconst (q := 6) X dX8_isStrategy_5 rfl ?_
    refine A_icmp_ge (q := 9) (t := 13) X dX8_isStrategy_6 (by omega) (by decide) rfl rfl (fun hb6 => ?_) (fun hb6 => ?_)
    · refine A_iconst (q := 14) X dX8_isStrategy_13 rfl ?_
      exact A_zreturn X dX8_isStrategy_14 (by decide) ⟨zb0 (by omega), rfl⟩
    · refine A_iconst (q := 10) X dX8_isStrategy_9 rfl ?_
      refine A_goto (q := 14) X dX8_isStrategy_10 rfl ?_
      exact A_zreturn X dX8_isStrategy_14 (by decide) ⟨zb1 (by omega), rfl⟩
set_option maxRecDepth 100000 in
set_option maxHeartbeats 4000000 in
theorem c_X8_isSlot {l : Launch} {G : Gm} {c : HP} {t : Int} (hG : injG G) (ht : rg t) : AMet l G yX8_isSlot cX8_isSlot 1 ((some .boolean)) (rmR 0 0) [.int (zI t)] c (Qi (fun v c' => v = zI (if t = 0 ∨ t = 1 then 1 else 0) ∧ c' = c)) := by
  refine AMet.of (vl := [some (.int (zI t))]) (by decide) hG (Nat.le_of_ble_eq_true rfl) rfl ?_
  intro K X
  have X : Fx l G K cX8_isSlot 1 RX8 ((some .boolean)) (rmR 0 0) := X
  refine A_iload_n (q := 1) X dX8_isSlot_0 rfl rfl ?_
  refine A_if_eq (q := 4) (t := 9) X dX8_isSlot_1 (by omega) rfl rfl (fun hb1 => ?_) (fun hb1 => ?_)
  · refine A_iconst (q := 10) X dX8_isSlot_9 rfl ?_
    refine A_goto (q := 14) X dX8_isSlot_10 rfl ?_
    exact A_zreturn X dX8_isSlot_14 (by decide) ⟨zb1 (by omega), rfl⟩
  · refine A_iload_n (q := 5) X dX8_isSlot_4 rfl rfl ?_
    refine A_iconst (q := 6) X dX8_isSlot_5 rfl ?_
    refine A_icmp_ne (q := 9) (t := 13) X dX8_isSlot_6 (by omega) (by decide) rfl rfl (fun hb6 => ?_) (fun hb6 => ?_)
    · refine A_iconst (q := 14) X dX8_isSlot_13 rfl ?_
      exact A_zreturn X dX8_isSlot_14 (by decide) ⟨zb0 (by omega), rfl⟩
    · refine A_iconst (q := 10) X dX8_isSlot_9 rfl ?_
      refine A_goto (q := 14) X dX8_isSlot_10 rfl ?_
      exact A_zreturn X dX8_isSlot_14 (by decide) ⟨zb1 (by omega), rfl⟩
set_option maxRecDepth 100000 in
set_option maxHeartbeats 4000000 in
theorem c_X8_isPrediction {l : Launch} {G : Gm} {c : HP} {t u : Int} (hG : injG G) (ht : rg t) (hu : rg u) : AMet l G yX8_isPrediction cX8_isPrediction 2 ((some .boolean)) (rmR 1 20) [.int (zI t), .int (zI u)] c (Qi (fun v c' => v = zI (if (0 ≤ t ∧ t < 4) ∧ 0 ≤ u ∧ u ≤ 200 then 1 else 0) ∧ c' = c)) := by
  refine AMet.of (vl := [some (.int (zI t)), some (.int (zI u))]) (by decide) hG (Nat.le_of_ble_eq_true rfl) rfl ?_
  intro K X
  have X : Fx l G K cX8_isPrediction 2 RX8 ((some .boolean)) (rmR 1 20) := X
  refine A_iload_n (q := 1) X dX8_isPrediction_0 rfl rfl ?_
  refine A_S1i (q := 4) X (c_X8_isStrategy hG (by omega)) mX8_isStrategy kX8_118 dX8_isPrediction_1 (by decide) (Nat.le_of_ble_eq_true rfl) rfl (fun vq_3 cq_2 hq_1 => ?_)
  obtain ⟨rfl, hq_1⟩ := hq_1
  obtain rfl := hq_1.symm
  refine A_beq (q := 7) (t := 22) X dX8_isPrediction_4 rfl rfl (fun hb4 => ?_) (fun hb4 => ?_)
  · refine A_iconst (q := 23) X dX8_isPrediction_22 rfl ?_
    exact A_zreturn X dX8_isPrediction_23 (by decide) ⟨zb0 (by omega), rfl⟩
  · refine A_iload_n (q := 8) X dX8_isPrediction_7 rfl rfl ?_
    refine A_if_lt (q := 11) (t := 22) X dX8_isPrediction_8 (by omega) rfl rfl (fun hb8 => ?_) (fun hb8 => ?_)
    · refine A_iconst (q := 23) X dX8_isPrediction_22 rfl ?_
      exact A_zreturn X dX8_isPrediction_23 (by decide) ⟨zb0 (by omega), rfl⟩
    · refine A_iload_n (q := 12) X dX8_isPrediction_11 rfl rfl ?_
      refine A_sipush (q := 15) X dX8_isPrediction_12 (by decide) rfl ?_
      refine A_icmp_gt (q := 18) (t := 22) X dX8_isPrediction_15 (by omega) (by decide) rfl rfl (fun hb15 => ?_) (fun hb15 => ?_)
      · refine A_iconst (q := 23) X dX8_isPrediction_22 rfl ?_
        exact A_zreturn X dX8_isPrediction_23 (by decide) ⟨zb0 (by omega), rfl⟩
      · refine A_iconst (q := 19) X dX8_isPrediction_18 rfl ?_
        refine A_goto (q := 23) X dX8_isPrediction_19 rfl ?_
        exact A_zreturn X dX8_isPrediction_23 (by decide) ⟨zb1 (by omega), rfl⟩
set_option maxRecDepth 100000 in
set_option maxHeartbeats 4000000 in
theorem c_X8_parts {l : Launch} {G : Gm} {c : HP} {t : Int} (hG : injG G) (ht : rg t) : AMet l G yX8_parts cX8_parts 1 ((some .int)) (rmR 0 0) [.int (zI t)] c (Qi (fun v c' => v = zI (pA t) ∧ c' = c)) := by
  refine AMet.of (vl := [some (.int (zI t))]) (by decide) hG (Nat.le_of_ble_eq_true rfl) rfl ?_
  intro K X
  have X : Fx l G K cX8_parts 1 RX8 ((some .int)) (rmR 0 0) := X
  refine A_iload_n (q := 1) X dX8_parts_0 rfl rfl ?_
  by_cases e1_1000 : t = 1000
  · refine A_tableIn (q := 28) (off := 27) X dX8_parts_1 (by omega) (by omega) (by omega) (by rw [e1_1000]; rfl) rfl ?_
    refine A_iconst (q := 29) X dX8_parts_28 rfl ?_
    exact A_ireturn X dX8_parts_29 ⟨by unfold pA; repeat (first | rw [if_pos (by omega)] | rw [if_neg (by omega)]), rfl⟩
  · skip
    by_cases e1_1001 : t = 1001
    · refine A_tableIn (q := 30) (off := 29) X dX8_parts_1 (by omega) (by omega) (by omega) (by rw [e1_1001]; rfl) rfl ?_
      refine A_iconst (q := 31) X dX8_parts_30 rfl ?_
      exact A_ireturn X dX8_parts_31 ⟨by unfold pA; repeat (first | rw [if_pos (by omega)] | rw [if_neg (by omega)]), rfl⟩
    · skip
      by_cases e1_1002 : t = 1002
      · refine A_tableIn (q := 30) (off := 29) X dX8_parts_1 (by omega) (by omega) (by omega) (by rw [e1_1002]; rfl) rfl ?_
        refine A_iconst (q := 31) X dX8_parts_30 rfl ?_
        exact A_ireturn X dX8_parts_31 ⟨by unfold pA; repeat (first | rw [if_pos (by omega)] | rw [if_neg (by omega)]), rfl⟩
      · skip
        refine A_tableOut (q := 32) X dX8_parts_1 (by omega) (by omega) rfl ?_
        refine A_iconst (q := 33) X dX8_parts_32 rfl ?_
        exact A_ireturn X dX8_parts_33 ⟨by unfold pA; repeat (first | rw [if_pos (by omega)] | rw [if_neg (by omega)]), rfl⟩
/-! OUTLINE -/
def Ol (G : Gm) (c : HP) (h a1 a2 n : Nat) (E D : Nat → Int) : Prop := h < G.2.1 ∧ a1 < G.2.1 ∧ a2 < G.2.1 ∧ h ≠ a1 ∧ h ≠ a2 ∧ a1 ≠ a2 ∧ n ≤ 200 ∧ c h = .inr (4, [.ref (G.1 a1), .ref (G.1 a2), .int (zI (n : Nat))]) ∧ c a1 = aI G 200 E ∧ c a2 = aI G 200 D
theorem Ol.keep {G : Gm} {c c' : HP} {h a1 a2 n : Nat} {E D : Nat → Int} (q : Ol G c h a1 a2 n E D) (e1 : c' h = c h) (e2 : c' a1 = c a1) (e3 : c' a2 = c a2) : Ol G c' h a1 a2 n E D := by
  obtain ⟨h1, h2, h3, h4, h5, h6, h7, h8, h9, h10⟩ := q
  exact ⟨h1, h2, h3, h4, h5, h6, h7, e1.trans h8, e2.trans h9, e3.trans h10⟩
theorem Ol.cell {G : Gm} {c : HP} {h a1 a2 n : Nat} {E D : Nat → Int} (q : Ol G c h a1 a2 n E D) : c h = .inr (4, [.ref (G.1 a1), .ref (G.1 a2), .int (zI (n : Nat))]) := q.2.2.2.2.2.2.2.1
theorem Ol.c1 {G : Gm} {c : HP} {h a1 a2 n : Nat} {E D : Nat → Int} (q : Ol G c h a1 a2 n E D) : c a1 = aI G 200 E := q.2.2.2.2.2.2.2.2.1
theorem Ol.c2 {G : Gm} {c : HP} {h a1 a2 n : Nat} {E D : Nat → Int} (q : Ol G c h a1 a2 n E D) : c a2 = aI G 200 D := q.2.2.2.2.2.2.2.2.2
theorem Ol.lt {G : Gm} {c : HP} {h a1 a2 n : Nat} {E D : Nat → Int} (q : Ol G c h a1 a2 n E D) : h < G.2.1 := q.1
def olE (n : Nat) (E : Nat → Int) (p : Int) : Int := if 0 ≤ p ∧ p < (n : Nat) then E p.toNat else (n : Nat)
def olD (n : Nat) (D : Nat → Int) (p : Int) : Int := if 0 ≤ p ∧ p < (n : Nat) then D p.toNat else 0
def olU (n : Nat) (D : Nat → Int) (p v : Int) : Nat → Int := if 0 ≤ p ∧ p < (n : Nat) then va_up D p.toNat v else D
set_option maxRecDepth 100000 in
set_option maxHeartbeats 4000000 in
theorem c_X4_endAt {l : Launch} {G : Gm} {c : HP} {h a1 a2 m : Nat} {E D : Nat → Int} {p : Int} (hG : injG G) (hO : Ol G c h a1 a2 m E D) (hp : rg p) : AMet l G yX4_endAt cX4_endAt 2 ((some .int)) (rmR 0 0) [.ref (G.1 h), .int (zI p)] c (Qi (fun v c' => v = zI (olE m E p) ∧ c' = c)) := by
  refine AMet.of (vl := [some (.ref (G.1 h)), some (.int (zI p))]) (by decide) hG (Nat.le_of_ble_eq_true rfl) rfl ?_
  intro K X
  have X : Fx l G K cX4_endAt 2 RX4 ((some .int)) (rmR 0 0) := X
  obtain ⟨hN0, hN1, hN2, n01, n02, n12, hm, hh, h1, h2⟩ := hO
  refine A_iload_n (q := 1) X dX4_endAt_0 rfl rfl ?_
  refine A_if_lt (q := 4) (t := 21) X dX4_endAt_1 (by omega) rfl rfl (fun hb1 => ?_) (fun hb1 => ?_)
  · refine A_aload_n (q := 22) X dX4_endAt_21 rfl rfl ?_
    refine A_getf (q := 25) X fX4_18 dX4_endAt_22 hN0 hh rfl rfl ?_
    exact A_ireturn X dX4_endAt_25 ⟨by unfold olE; first | rw [if_pos (by omega)] | rw [if_neg (by omega)], rfl⟩
  · refine A_iload_n (q := 5) X dX4_endAt_4 rfl rfl ?_
    refine A_aload_n (q := 6) X dX4_endAt_5 rfl rfl ?_
    refine A_getf (q := 9) X fX4_18 dX4_endAt_6 hN0 hh rfl rfl ?_
    refine A_icmp_ge (q := 12) (t := 21) X dX4_endAt_9 (by omega) (by omega) rfl rfl (fun hb9 => ?_) (fun hb9 => ?_)
    · refine A_aload_n (q := 22) X dX4_endAt_21 rfl rfl ?_
      refine A_getf (q := 25) X fX4_18 dX4_endAt_22 hN0 hh rfl rfl ?_
      exact A_ireturn X dX4_endAt_25 ⟨by unfold olE; first | rw [if_pos (by omega)] | rw [if_neg (by omega)], rfl⟩
    · refine A_aload_n (q := 13) X dX4_endAt_12 rfl rfl ?_
      refine A_getf (q := 16) X fX4_9 dX4_endAt_13 hN0 hh rfl rfl ?_
      refine A_iload_n (q := 17) X dX4_endAt_16 rfl rfl ?_
      refine A_iald (q := 18) (h := a1) ((p).toNat) X dX4_endAt_17 hN1 h1 (by omega) (by omega) (by decide) rfl ?_
      refine A_goto (q := 25) X dX4_endAt_18 rfl ?_
      exact A_ireturn X dX4_endAt_25 ⟨by unfold olE; first | rw [if_pos (by omega)] | rw [if_neg (by omega)], rfl⟩
set_option maxRecDepth 100000 in
set_option maxHeartbeats 4000000 in
theorem c_X4_depthAt {l : Launch} {G : Gm} {c : HP} {h a1 a2 m : Nat} {E D : Nat → Int} {p : Int} (hG : injG G) (hO : Ol G c h a1 a2 m E D) (hp : rg p) : AMet l G yX4_depthAt cX4_depthAt 2 ((some .int)) (rmR 0 0) [.ref (G.1 h), .int (zI p)] c (Qi (fun v c' => v = zI (olD m D p) ∧ c' = c)) := by
  refine AMet.of (vl := [some (.ref (G.1 h)), some (.int (zI p))]) (by decide) hG (Nat.le_of_ble_eq_true rfl) rfl ?_
  intro K X
  have X : Fx l G K cX4_depthAt 2 RX4 ((some .int)) (rmR 0 0) := X
  obtain ⟨hN0, hN1, hN2, n01, n02, n12, hm, hh, h1, h2⟩ := hO
  refine A_iload_n (q := 1) X dX4_depthAt_0 rfl rfl ?_
  refine A_if_lt (q := 4) (t := 21) X dX4_depthAt_1 (by omega) rfl rfl (fun hb1 => ?_) (fun hb1 => ?_)
  · refine A_iconst (q := 22) X dX4_depthAt_21 rfl ?_
    exact A_ireturn X dX4_depthAt_22 ⟨by unfold olD; first | rw [if_pos (by omega)] | rw [if_neg (by omega)], rfl⟩
  · refine A_iload_n (q := 5) X dX4_depthAt_4 rfl rfl ?_
    refine A_aload_n (q := 6) X dX4_depthAt_5 rfl rfl ?_
    refine A_getf (q := 9) X fX4_18 dX4_depthAt_6 hN0 hh rfl rfl ?_
    refine A_icmp_ge (q := 12) (t := 21) X dX4_depthAt_9 (by omega) (by omega) rfl rfl (fun hb9 => ?_) (fun hb9 => ?_)
    · refine A_iconst (q := 22) X dX4_depthAt_21 rfl ?_
      exact A_ireturn X dX4_depthAt_22 ⟨by unfold olD; first | rw [if_pos (by omega)] | rw [if_neg (by omega)], rfl⟩
    · refine A_aload_n (q := 13) X dX4_depthAt_12 rfl rfl ?_
      refine A_getf (q := 16) X fX4_15 dX4_depthAt_13 hN0 hh rfl rfl ?_
      refine A_iload_n (q := 17) X dX4_depthAt_16 rfl rfl ?_
      refine A_iald (q := 18) (h := a2) ((p).toNat) X dX4_depthAt_17 hN2 h2 (by omega) (by omega) (by decide) rfl ?_
      refine A_goto (q := 22) X dX4_depthAt_18 rfl ?_
      exact A_ireturn X dX4_depthAt_22 ⟨by unfold olD; first | rw [if_pos (by omega)] | rw [if_neg (by omega)], rfl⟩
set_option maxRecDepth 100000 in
set_option maxHeartbeats 4000000 in
theorem c_X4_setDepth {l : Launch} {G : Gm} {c : HP} {h a1 a2 m : Nat} {E D : Nat → Int} {p v : Int} (hG : injG G) (hO : Ol G c h a1 a2 m E D) (hp : rg p) : AMet l G yX4_setDepth cX4_setDepth 3 (none) (rmR 0 0) [.ref (G.1 h), .int (zI p), .int (zI v)] c (Qv (fun c' => Ol G c' h a1 a2 m E (olU m D p v) ∧ (∀ k, k ≠ a2 → c' k = c k))) := by
  refine AMet.of (vl := [some (.ref (G.1 h)), some (.int (zI p)), some (.int (zI v))]) (by decide) hG (Nat.le_of_ble_eq_true rfl) rfl ?_
  intro K X
  have X : Fx l G K cX4_setDepth 3 RX4 (none) (rmR 0 0) := X
  obtain ⟨hN0, hN1, hN2, n01, n02, n12, hm, hh, h1, h2⟩ := hO
  refine A_iload_n (q := 1) X dX4_setDepth_0 rfl rfl ?_
  refine A_if_lt (q := 4) (t := 19) X dX4_setDepth_1 (by omega) rfl rfl (fun hb1 => ?_) (fun hb1 => ?_)
  · refine A_return X dX4_setDepth_19 ⟨⟨hN0, hN1, hN2, n01, n02, n12, hm, hh, h1, h2.trans ?_⟩, (fun k n0 => rfl)⟩
    unfold olU
    first | rw [if_pos (by omega)] | rw [if_neg (by omega)]
  · refine A_iload_n (q := 5) X dX4_setDepth_4 rfl rfl ?_
    refine A_aload_n (q := 6) X dX4_setDepth_5 rfl rfl ?_
    refine A_getf (q := 9) X fX4_18 dX4_setDepth_6 hN0 hh rfl rfl ?_
    refine A_icmp_ge (q := 12) (t := 19) X dX4_setDepth_9 (by omega) (by omega) rfl rfl (fun hb9 => ?_) (fun hb9 => ?_)
    · refine A_return X dX4_setDepth_19 ⟨⟨hN0, hN1, hN2, n01, n02, n12, hm, hh, h1, h2.trans ?_⟩, (fun k n0 => rfl)⟩
      unfold olU
      first | rw [if_pos (by omega)] | rw [if_neg (by omega)]
    · refine A_aload_n (q := 13) X dX4_setDepth_12 rfl rfl ?_
      refine A_getf (q := 16) X fX4_15 dX4_setDepth_13 hN0 hh rfl rfl ?_
      refine A_iload_n (q := 17) X dX4_setDepth_16 rfl rfl ?_
      refine A_iload_n (q := 18) X dX4_setDepth_17 rfl rfl ?_
      refine A_iast (q := 19) (h := a2) ((p).toNat) X dX4_setDepth_18 hN2 h2 (by omega) (by omega) (by decide) rfl ?_
      refine A_return X dX4_setDepth_19 ⟨⟨hN0, hN1, hN2, n01, n02, n12, hm, (lk_ne (by omega) hh), (lk_ne (by omega) h1), lk_eq.trans ?_⟩, (fun k n0 => (lk_ne (by omega) rfl))⟩
      unfold olU
      first | rw [if_pos (by omega)] | rw [if_neg (by omega)]
theorem olE_en {l : List Int} {m i : Nat} {E : Nat → Int} (hm : m = l.length) (hE : ∀ j, i ≤ j → j < m → E j = (en l j : Nat)) {p : Int} {k : Nat} (hp : p = (k : Nat)) (h1 : i ≤ k) (h2 : k ≤ m) : olE m E p = (en l k : Nat) := by
  subst hp
  unfold olE
  by_cases h : k < m
  · rw [if_pos (by omega), Int.toNat_natCast, hE k h1 h]
  · have : k = l.length := by omega
    rw [if_neg (by omega), this, en_n, ← hm]
set_option maxRecDepth 100000 in
set_option maxHeartbeats 4000000 in
theorem lp_X4_measureEnds {l : Launch} {G : Gm} {K : Cx} {c0 : HP} {h a1 a2 m t ta : Nat} {D : Nat → Int} {T : List Int × Int} (X : Fx l G K cX4_measureEnds 4 RX4 (none) (rmR 1 21)) (hG : injG G) (hgd : Gd T.1) (hml : m = T.1.length) (x1 : h ≠ t) (x2 : h ≠ ta) (x3 : a1 ≠ t) (x4 : a1 ≠ ta) (x5 : a2 ≠ t) (x6 : a2 ≠ ta) : ∀ (n : Nat) (i : Nat) (E : Nat → Int) (c : HP), i < n → i ≤ m → Tm G c t ta T → Ol G c h a1 a2 m E D → (∀ j, i ≤ j → j < m → E j = (en T.1 j : Nat)) → (∀ k, k ≠ a1 → c k = c0 k) → AW G K (Qv (fun c' => ∃ E', Ol G c' h a1 a2 m E' D ∧ (∀ j, j < m → E' j = (en T.1 j : Nat)) ∧ (∀ k, k ≠ a1 → c' k = c0 k))) 7 (mkL [some (.ref (G.1 h)), some (.ref (G.1 t)), some (.int (zI (((i : Nat) : Int) - 1))), none]) [] c := by
  intro n
  induction n with
  | zero => intro i E c hmz; exact absurd hmz (Nat.not_lt_zero _)
  | succ n ih =>
    intro i E c hmz hi hT hO hE hf0
    obtain ⟨hN0, hN1, hN2, n01, n02, n12, hm, -, -, -⟩ := id hO
    have hlen := hT.len
    refine A_iload_n (q := 8) X dX4_measureEnds_7 rfl rfl ?_
    refine A_if_lt (q := 11) (t := 82) X dX4_measureEnds_8 (by omega) rfl rfl (fun hb8 => ?_) (fun hb8 => ?_)
    · exact A_return X dX4_measureEnds_82 ⟨E, hO, fun j hj => hE j (by omega) hj, hf0⟩
    · obtain ⟨i2, rfl⟩ : ∃ i2, i = i2 + 1 := ⟨i - 1, by omega⟩
      refine A_aload_n (q := 12) X dX4_measureEnds_11 rfl rfl ?_
      refine A_iload_n (q := 13) X dX4_measureEnds_12 rfl rfl ?_
      refine A_V1i (q := 16) X (c_X6_token hG hT (by omega)) mX6_token kX4_40 dX4_measureEnds_13 hT.lt hT.cell rfl (by decide) (Nat.le_of_ble_eq_true rfl) rfl (fun vq_3 cq_2 hq_1 => ?_)
      obtain ⟨rfl, hq_1⟩ := hq_1
      obtain rfl := hq_1.symm
      refine A_istore_n (q := 17) X dX4_measureEnds_16 (by decide) (okP_s rfl rfl) rfl ?_
      have etk : tokA T.1 (((i2 + 1 : Nat) : Int) - 1) = T.1.getD i2 0 := by rw [show (((i2 + 1 : Nat) : Int) - 1) = ((i2 : Nat) : Int) by omega]; exact tokA_in (by omega)
      have htk := hgd.at (i := i2) (by omega)
      rw [etk]
      refine A_iload_n (q := 18) X dX4_measureEnds_17 rfl rfl ?_
      refine A_sipush (q := 21) X dX4_measureEnds_18 (by decide) rfl ?_
      refine A_icmp_ne (q := 24) (t := 40) X dX4_measureEnds_21 (by omega) (by decide) rfl rfl (fun hb21 => ?_) (fun hb21 => ?_)
      · refine A_iload_n (q := 41) X dX4_measureEnds_40 rfl rfl ?_
        refine A_sipush (q := 44) X dX4_measureEnds_41 (by decide) rfl ?_
        refine A_icmp_ne (q := 47) (t := 67) X dX4_measureEnds_44 (by omega) (by decide) rfl rfl (fun hb44 => ?_) (fun hb44 => ?_)
        · refine A_aload_n (q := 68) X dX4_measureEnds_67 rfl rfl ?_
          refine A_getf (q := 71) X fX4_9 dX4_measureEnds_68 hO.lt hO.cell rfl rfl ?_
          refine A_iload_n (q := 72) X dX4_measureEnds_71 rfl rfl ?_
          refine A_iload_n (q := 73) X dX4_measureEnds_72 rfl rfl ?_
          refine A_iconst (q := 74) X dX4_measureEnds_73 rfl ?_
          refine A_iadd (q := 75) X dX4_measureEnds_74 rfl ?_
          refine A_iast (q := 76) (h := a1) (((((i2 + 1 : Nat) : Int) - 1)).toNat) X dX4_measureEnds_75 (by omega) hO.c1 (by omega) (by omega) (by decide) rfl ?_
          refine A_iinc (q := 79) X dX4_measureEnds_76 rfl (by decide) (okP_s rfl rfl) rfl ?_
          refine A_goto (q := 7) X dX4_measureEnds_79 rfl ?_
          refine AW.loc (sS rfl (sS rfl (sZ rfl (by omega) (sN sE)))) (ih i2 _ _ (by omega) (by omega) (hT.keep (lk_ne (by omega) rfl) (lk_ne (by omega) rfl)) ⟨hN0, hN1, hN2, n01, n02, n12, hm, (lk_ne (by omega) hO.cell), lk_eq, (lk_ne (by omega) hO.c2)⟩ (fun j h1 h2 => ?_) (fun k n0 => (lk_ne n0 (hf0 k n0))))
          by_cases ej : j = i2
          · subst ej
            rw [show (((j + 1 : Nat) : Int) - 1).toNat = j by omega, lk_eq]
            rw [en_var (by omega) (prt_var (by omega) (by omega) (by omega))]
            omega
          · rw [lk_ne (by omega) rfl]
            exact hE j (by omega) h2
        · refine A_aload_n (q := 48) X dX4_measureEnds_47 rfl rfl ?_
          refine A_getf (q := 51) X fX4_9 dX4_measureEnds_48 hO.lt hO.cell rfl rfl ?_
          refine A_iload_n (q := 52) X dX4_measureEnds_51 rfl rfl ?_
          refine A_aload_n (q := 53) X dX4_measureEnds_52 rfl rfl ?_
          refine A_aload_n (q := 54) X dX4_measureEnds_53 rfl rfl ?_
          refine A_iload_n (q := 55) X dX4_measureEnds_54 rfl rfl ?_
          refine A_iconst (q := 56) X dX4_measureEnds_55 rfl ?_
          refine A_iadd (q := 57) X dX4_measureEnds_56 rfl ?_
          have een := en_le (l := T.1) (i := i2 + 1) (by omega)
          have een2 := en_ge T.1 (i2 + 1)
          refine A_V1i (q := 60) X (c_X4_endAt hG hO (by omega)) mX4_endAt kX4_44 dX4_measureEnds_57 hO.lt hO.cell rfl (by decide) (Nat.le_of_ble_eq_true rfl) rfl (fun vq_6 cq_5 hq_4 => ?_)
          obtain ⟨rfl, hq_4⟩ := hq_4
          obtain rfl := hq_4.symm
          have eo := olE_en (p := (((i2 + 1 : Nat) : Int) - 1) + 1) (k := i2 + 1) hml hE (by omega) (by omega) (by omega)
          refine A_V1i (q := 63) X (c_X4_endAt hG hO (by omega)) mX4_endAt kX4_44 dX4_measureEnds_60 hO.lt hO.cell rfl (by decide) (Nat.le_of_ble_eq_true rfl) rfl (fun vq_9 cq_8 hq_7 => ?_)
          obtain ⟨rfl, hq_7⟩ := hq_7
          obtain rfl := hq_7.symm
          refine A_iast (q := 64) (h := a1) (((((i2 + 1 : Nat) : Int) - 1)).toNat) X dX4_measureEnds_63 (by omega) hO.c1 (by omega) (by omega) (by decide) rfl ?_
          refine A_goto (q := 76) X dX4_measureEnds_64 rfl ?_
          refine A_iinc (q := 79) X dX4_measureEnds_76 rfl (by decide) (okP_s rfl rfl) rfl ?_
          refine A_goto (q := 7) X dX4_measureEnds_79 rfl ?_
          refine AW.loc (sS rfl (sS rfl (sZ rfl (by omega) (sN sE)))) (ih i2 _ _ (by omega) (by omega) (hT.keep (lk_ne (by omega) rfl) (lk_ne (by omega) rfl)) ⟨hN0, hN1, hN2, n01, n02, n12, hm, (lk_ne (by omega) hO.cell), lk_eq, (lk_ne (by omega) hO.c2)⟩ (fun j h1 h2 => ?_) (fun k n0 => (lk_ne n0 (hf0 k n0))))
          by_cases ej : j = i2
          · subst ej
            rw [show (((j + 1 : Nat) : Int) - 1).toNat = j by omega, lk_eq]
            rw [olE_en (k := en T.1 (j + 1)) hml hE (olE_en (k := j + 1) hml hE (by omega) (by omega) (by omega)) (by omega) (by omega), en_app (i := j) (by omega) (by rw [show T.1.getD j 0 = 1000 by omega]; rfl)]
          · rw [lk_ne (by omega) rfl]
            exact hE j (by omega) h2
      · refine A_aload_n (q := 25) X dX4_measureEnds_24 rfl rfl ?_
        refine A_getf (q := 28) X fX4_9 dX4_measureEnds_25 hO.lt hO.cell rfl rfl ?_
        refine A_iload_n (q := 29) X dX4_measureEnds_28 rfl rfl ?_
        refine A_aload_n (q := 30) X dX4_measureEnds_29 rfl rfl ?_
        refine A_iload_n (q := 31) X dX4_measureEnds_30 rfl rfl ?_
        refine A_iconst (q := 32) X dX4_measureEnds_31 rfl ?_
        refine A_iadd (q := 33) X dX4_measureEnds_32 rfl ?_
        refine A_V1i (q := 36) X (c_X4_endAt hG hO (by omega)) mX4_endAt kX4_44 dX4_measureEnds_33 hO.lt hO.cell rfl (by decide) (Nat.le_of_ble_eq_true rfl) rfl (fun vq_12 cq_11 hq_10 => ?_)
        obtain ⟨rfl, hq_10⟩ := hq_10
        obtain rfl := hq_10.symm
        refine A_iast (q := 37) (h := a1) (((((i2 + 1 : Nat) : Int) - 1)).toNat) X dX4_measureEnds_36 (by omega) hO.c1 (by omega) (by omega) (by decide) rfl ?_
        refine A_goto (q := 76) X dX4_measureEnds_37 rfl ?_
        refine A_iinc (q := 79) X dX4_measureEnds_76 rfl (by decide) (okP_s rfl rfl) rfl ?_
        refine A_goto (q := 7) X dX4_measureEnds_79 rfl ?_
        refine AW.loc (sS rfl (sS rfl (sZ rfl (by omega) (sN sE)))) (ih i2 _ _ (by omega) (by omega) (hT.keep (lk_ne (by omega) rfl) (lk_ne (by omega) rfl)) ⟨hN0, hN1, hN2, n01, n02, n12, hm, (lk_ne (by omega) hO.cell), lk_eq, (lk_ne (by omega) hO.c2)⟩ (fun j h1 h2 => ?_) (fun k n0 => (lk_ne n0 (hf0 k n0))))
        by_cases ej : j = i2
        · subst ej
          rw [show (((j + 1 : Nat) : Int) - 1).toNat = j by omega, lk_eq]
          rw [olE_en (k := j + 1) hml hE (by omega) (by omega) (by omega), en_abs (i := j) (by omega) (by rw [show T.1.getD j 0 = 1001 by omega]; rfl)]
        · rw [lk_ne (by omega) rfl]
          exact hE j (by omega) h2
set_option maxRecDepth 100000 in
set_option maxHeartbeats 4000000 in
theorem c_X4_measureEnds {l : Launch} {G : Gm} {c : HP} {h a1 a2 m t ta : Nat} {E D : Nat → Int} {T : List Int × Int} (hG : injG G) (hgd : Gd T.1) (hml : m = T.1.length) (x1 : h ≠ t) (x2 : h ≠ ta) (x3 : a1 ≠ t) (x4 : a1 ≠ ta) (x5 : a2 ≠ t) (x6 : a2 ≠ ta) (hT : Tm G c t ta T) (hO : Ol G c h a1 a2 m E D) : AMet l G yX4_measureEnds cX4_measureEnds 4 (none) (rmR 1 21) [.ref (G.1 h), .ref (G.1 t)] c (Qv (fun c' => ∃ E', Ol G c' h a1 a2 m E' D ∧ (∀ j, j < m → E' j = (en T.1 j : Nat)) ∧ (∀ k, k ≠ a1 → c' k = c k))) := by
  refine AMet.of (vl := [some (.ref (G.1 h)), some (.ref (G.1 t))]) (by decide) hG (Nat.le_of_ble_eq_true rfl) rfl ?_
  intro K X
  have X : Fx l G K cX4_measureEnds 4 RX4 (none) (rmR 1 21) := X
  refine A_aload_n (q := 1) X dX4_measureEnds_0 rfl rfl ?_
  refine A_getf (q := 4) X fX4_18 dX4_measureEnds_1 hO.lt hO.cell rfl rfl ?_
  refine A_iconst (q := 5) X dX4_measureEnds_4 rfl ?_
  refine A_isub (q := 6) X dX4_measureEnds_5 rfl ?_
  refine A_istore_n (q := 7) X dX4_measureEnds_6 (by decide) (okP_s rfl rfl) rfl ?_
  exact AW.loc (sS rfl (sS rfl (sZ rfl (by omega) (sN sE)))) (lp_X4_measureEnds X hG hgd hml x1 x2 x3 x4 x5 x6 _ m E c (Nat.lt_succ_self _) (Nat.le_refl _) hT hO (fun j h1 h2 => absurd h2 (by omega)) (fun _ _ => rfl))
theorem olU_in {m k : Nat} {D : Nat → Int} {p v : Int} (hp : p = (k : Nat)) (h : k < m) : olU m D p v = va_up D k v := by
  subst hp
  unfold olU
  rw [if_pos (by omega), Int.toNat_natCast]
theorem pnd_len {l : List Int} {i : Nat} {ds : List Nat} (hi : i ≤ l.length) (h : pnd l i ds) : i + ds.length ≤ l.length := by
  obtain ⟨cs, h1, h2⟩ := h
  have := wfr_le _ _ h1
  rw [List.length_drop] at this
  omega
theorem pnd_en {l : List Int} {i d e : Nat} {ds : List Nat} (hi : i ≤ l.length) (h : pnd l i (d :: e :: ds)) : en l i < l.length := by
  obtain ⟨cs, h1, h2⟩ := h
  have := (sk_wfk h1 (k := 1) (by rw [h2]; simp)).2
  rw [List.length_drop] at this
  unfold en
  omega
set_option maxRecDepth 100000 in
set_option maxHeartbeats 4000000 in
theorem lp_X4_measureDepths {l : Launch} {G : Gm} {K : Cx} {c0 : HP} {h a1 a2 m t ta : Nat} {E : Nat → Int} {T : List Int × Int} (X : Fx l G K cX4_measureDepths 4 RX4 (none) (rmR 1 22)) (hG : injG G) (hgd : Gd T.1) (hml : m = T.1.length) (hE : ∀ j, j < m → E j = (en T.1 j : Nat)) (x1 : h ≠ t) (x2 : h ≠ ta) (x3 : a1 ≠ t) (x4 : a1 ≠ ta) (x5 : a2 ≠ t) (x6 : a2 ≠ ta) : ∀ (n : Nat) (i : Nat) (D : Nat → Int) (c : HP) (ds : List Nat), m - i < n → i ≤ m → Tm G c t ta T → Ol G c h a1 a2 m E D → pnd T.1 i ds → stk (T.1.take i) [0] = ds → ahd T.1 i ds D → (∀ j, j < i → D j = (dp T.1 j : Nat)) → (∀ k, k ≠ a2 → c k = c0 k) → AW G K (Qv (fun c' => ∃ D', Ol G c' h a1 a2 m E D' ∧ (∀ j, j < m → D' j = (dp T.1 j : Nat)) ∧ (∀ k, k ≠ a2 → c' k = c0 k))) 8 (mkL [some (.ref (G.1 h)), some (.ref (G.1 t)), some (.int (zI ((i : Nat) : Int))), none]) [] c := by
  intro n
  induction n with
  | zero => intro i D c ds hmz; exact absurd hmz (Nat.not_lt_zero _)
  | succ n ih =>
    intro i D c ds hmz hi hT hO hp hst hah hD hf0
    obtain ⟨hN0, hN1, hN2, n01, n02, n12, hm, -, -, -⟩ := id hO
    have hlen := hT.len
    refine A_iload_n (q := 9) X dX4_measureDepths_8 rfl rfl ?_
    refine A_aload_n (q := 10) X dX4_measureDepths_9 rfl rfl ?_
    refine A_getf (q := 13) X fX4_18 dX4_measureDepths_10 hO.lt hO.cell rfl rfl ?_
    refine A_icmp_ge (q := 16) (t := 90) X dX4_measureDepths_13 (by omega) (by omega) rfl rfl (fun hb13 => ?_) (fun hb13 => ?_)
    · exact A_return X dX4_measureDepths_90 ⟨D, hO, fun j hj => hD j (by omega), hf0⟩
    · obtain ⟨d, ds2, rfl, hp2⟩ := pnd_step hgd.2.2 (by omega) hp
      have ed := ahd_0 hah
      have edp := dp_stk (by omega) hst
      have hst2 := stk_take (by omega) hst
      refine A_aload_n (q := 17) X dX4_measureDepths_16 rfl rfl ?_
      refine A_iload_n (q := 18) X dX4_measureDepths_17 rfl rfl ?_
      refine A_V1i (q := 21) X (c_X6_token hG hT (by omega)) mX6_token kX4_40 dX4_measureDepths_18 hT.lt hT.cell rfl (by decide) (Nat.le_of_ble_eq_true rfl) rfl (fun vq_3 cq_2 hq_1 => ?_)
      obtain ⟨rfl, hq_1⟩ := hq_1
      obtain rfl := hq_1.symm
      refine A_istore_n (q := 22) X dX4_measureDepths_21 (by decide) (okP_s rfl rfl) rfl ?_
      have htk := hgd.at (i := i) (by omega)
      rw [tokA_in (by omega)]
      refine A_iload_n (q := 23) X dX4_measureDepths_22 rfl rfl ?_
      refine A_sipush (q := 26) X dX4_measureDepths_23 (by decide) rfl ?_
      refine A_icmp_ne (q := 29) (t := 47) X dX4_measureDepths_26 (by omega) (by decide) rfl rfl (fun hb26 => ?_) (fun hb26 => ?_)
      · refine A_iload_n (q := 48) X dX4_measureDepths_47 rfl rfl ?_
        refine A_sipush (q := 51) X dX4_measureDepths_48 (by decide) rfl ?_
        refine A_icmp_ne (q := 54) (t := 84) X dX4_measureDepths_51 (by omega) (by decide) rfl rfl (fun hb51 => ?_) (fun hb51 => ?_)
        · refine A_iinc (q := 87) X dX4_measureDepths_84 rfl (by decide) (okP_s rfl rfl) rfl ?_
          refine A_goto (q := 8) X dX4_measureDepths_87 rfl ?_
          have en0 : nd (T.1.getD i 0) d = [] := by unfold nd; rw [if_neg (by omega), if_neg (by omega)]
          rw [en0, List.nil_append] at hp2 hst2
          exact AW.loc (sS rfl (sS rfl (sZ rfl (by omega) (sN sE)))) (ih (i + 1) _ _ ds2 (by omega) (by omega) hT hO hp2 hst2 (ahd_var (by omega) (prt_var (by omega) (by omega) (by omega)) hah) (lt_s hD (by rw [edp]; exact ed)) hf0)
        · have etok : T.1.getD i 0 = 1000 := by omega
          have en0 : nd (T.1.getD i 0) d = [d, d] := by rw [etok]; rfl
          rw [en0] at hp2 hst2
          have hpl := pnd_len (by omega) hp2
          simp only [List.length_append, List.length_cons, List.length_nil] at hpl
          have hpe : en T.1 (i + 1) < T.1.length := pnd_en (by omega) hp2
          have hpg := en_gt (l := T.1) (i := i + 1) (by omega)
          refine A_aload_n (q := 55) X dX4_measureDepths_54 rfl rfl ?_
          refine A_iload_n (q := 56) X dX4_measureDepths_55 rfl rfl ?_
          refine A_iconst (q := 57) X dX4_measureDepths_56 rfl ?_
          refine A_iadd (q := 58) X dX4_measureDepths_57 rfl ?_
          refine A_aload_n (q := 59) X dX4_measureDepths_58 rfl rfl ?_
          refine A_getf (q := 62) X fX4_15 dX4_measureDepths_59 hO.lt hO.cell rfl rfl ?_
          refine A_iload_n (q := 63) X dX4_measureDepths_62 rfl rfl ?_
          refine A_iald (q := 64) (h := a2) (i) X dX4_measureDepths_63 hN2 hO.c2 (by omega) (by omega) (by decide) rfl ?_
          refine A_V2v (q := 67) X (c_X4_setDepth hG hO (by omega)) mX4_setDepth kX4_47 dX4_measureDepths_64 hO.lt hO.cell rfl (by decide) (Nat.le_of_ble_eq_true rfl) rfl (fun cq_5 hq_4 => ?_)
          obtain ⟨hO_6, hf_7⟩ := hq_4
          refine A_aload_n (q := 68) X dX4_measureDepths_67 rfl rfl ?_
          refine A_aload_n (q := 69) X dX4_measureDepths_68 rfl rfl ?_
          refine A_iload_n (q := 70) X dX4_measureDepths_69 rfl rfl ?_
          refine A_iconst (q := 71) X dX4_measureDepths_70 rfl ?_
          refine A_iadd (q := 72) X dX4_measureDepths_71 rfl ?_
          refine A_V1i (q := 75) X (c_X4_endAt hG hO_6 (by omega)) mX4_endAt kX4_44 dX4_measureDepths_72 hO.lt hO_6.cell rfl (by decide) (Nat.le_of_ble_eq_true rfl) rfl (fun vq_10 cq_9 hq_8 => ?_)
          obtain ⟨rfl, hq_8⟩ := hq_8
          obtain rfl := hq_8.symm
          refine A_aload_n (q := 76) X dX4_measureDepths_75 rfl rfl ?_
          refine A_getf (q := 79) X fX4_15 dX4_measureDepths_76 hO.lt ((hf_7 _ (by omega)).trans hO.cell) rfl rfl ?_
          refine A_iload_n (q := 80) X dX4_measureDepths_79 rfl rfl ?_
          refine A_iald (q := 81) (h := a2) (i) X dX4_measureDepths_80 hN2 hO_6.c2 (by omega) (by omega) (by decide) rfl ?_
          have eo := olE_en (l := T.1) (E := E) (m := m) (p := ((i : Nat) : Int) + 1) (k := i + 1) (i := 0) hml (fun j _ h => hE j h) (by omega) (by omega) (by omega)
          refine A_V2v (q := 84) X (c_X4_setDepth hG hO_6 (by omega)) mX4_setDepth kX4_47 dX4_measureDepths_81 hO.lt hO_6.cell rfl (by decide) (Nat.le_of_ble_eq_true rfl) rfl (fun cq_12 hq_11 => ?_)
          obtain ⟨hO_13, hf_14⟩ := hq_11
          refine A_iinc (q := 87) X dX4_measureDepths_84 rfl (by decide) (okP_s rfl rfl) rfl ?_
          refine A_goto (q := 8) X dX4_measureDepths_87 rfl ?_
          have eD : (olU m (olU m D (((i : Nat) : Int) + 1) (D (i))) (olE m E (((i : Nat) : Int) + 1)) ((olU m D (((i : Nat) : Int) + 1) (D (i))) (i))) = va_up (va_up D (i + 1) ((d : Nat) : Int)) (en T.1 (i + 1)) ((d : Nat) : Int) := by rw [olU_in (k := en T.1 (i + 1)) (olE_en (k := i + 1) (i := 0) hml (fun j _ h => hE j h) (by omega) (by omega) (by omega)) (by omega), olU_in (k := i + 1) (by omega) (by omega), lk_ne (by omega) rfl, ed]
          have hO9 := hO_13
          rw [eD] at hO9
          exact AW.loc (sS rfl (sS rfl (sZ rfl (by omega) (sN sE)))) (ih (i + 1) _ _ (d :: d :: ds2) (by omega) (by omega) (hT.keep ((hf_14 t (by omega)).trans ((hf_7 t (by omega)).trans rfl)) ((hf_14 ta (by omega)).trans ((hf_7 ta (by omega)).trans rfl))) hO9 hp2 hst2 (ahd_app (by omega) (by rw [etok]; rfl) hp2 hah (lk_ne (by omega) lk_eq) lk_eq (fun j hj hj2 => lk_ne hj2 (lk_ne hj rfl))) (fun j hj => (lk_ne (by omega) (lk_ne (by omega) rfl)).trans (lt_s hD (by rw [edp]; exact ed) j hj)) (fun k n0 => (hf_14 k n0).trans ((hf_7 k n0).trans (hf0 k n0))))
      · refine A_aload_n (q := 30) X dX4_measureDepths_29 rfl rfl ?_
        refine A_iload_n (q := 31) X dX4_measureDepths_30 rfl rfl ?_
        refine A_iconst (q := 32) X dX4_measureDepths_31 rfl ?_
        refine A_iadd (q := 33) X dX4_measureDepths_32 rfl ?_
        refine A_aload_n (q := 34) X dX4_measureDepths_33 rfl rfl ?_
        refine A_getf (q := 37) X fX4_15 dX4_measureDepths_34 hO.lt hO.cell rfl rfl ?_
        refine A_iload_n (q := 38) X dX4_measureDepths_37 rfl rfl ?_
        refine A_iald (q := 39) (h := a2) (i) X dX4_measureDepths_38 hN2 hO.c2 (by omega) (by omega) (by decide) rfl ?_
        refine A_iconst (q := 40) X dX4_measureDepths_39 rfl ?_
        refine A_iadd (q := 41) X dX4_measureDepths_40 rfl ?_
        refine A_V2v (q := 44) X (c_X4_setDepth hG hO (by omega)) mX4_setDepth kX4_47 dX4_measureDepths_41 hO.lt hO.cell rfl (by decide) (Nat.le_of_ble_eq_true rfl) rfl (fun cq_16 hq_15 => ?_)
        obtain ⟨hO_17, hf_18⟩ := hq_15
        refine A_goto (q := 84) X dX4_measureDepths_44 rfl ?_
        refine A_iinc (q := 87) X dX4_measureDepths_84 rfl (by decide) (okP_s rfl rfl) rfl ?_
        refine A_goto (q := 8) X dX4_measureDepths_87 rfl ?_
        have etok : T.1.getD i 0 = 1001 := by omega
        have en0 : nd (T.1.getD i 0) d = [d + 1] := by rw [etok]; rfl
        rw [en0] at hp2 hst2
        have hpl := pnd_len (by omega) hp2
        simp only [List.length_append, List.length_singleton] at hpl
        have eD : (olU m D (((i : Nat) : Int) + 1) ((D (i)) + 1)) = va_up D (i + 1) ((d + 1 : Nat) : Int) := by rw [olU_in (k := i + 1) (by omega) (by omega), ed]; rfl
        have hO9 := hO_17
        rw [eD] at hO9
        exact AW.loc (sS rfl (sS rfl (sZ rfl (by omega) (sN sE)))) (ih (i + 1) _ _ ((d + 1) :: ds2) (by omega) (by omega) (hT.keep ((hf_18 t (by omega)).trans rfl) ((hf_18 ta (by omega)).trans rfl)) hO9 hp2 hst2 (ahd_abs (by omega) (by rw [etok]; rfl) hp2 hah lk_eq (fun j hj => lk_ne hj rfl)) (fun j hj => (lk_ne (by omega) rfl).trans (lt_s hD (by rw [edp]; exact ed) j hj)) (fun k n0 => (hf_18 k n0).trans (hf0 k n0)))
set_option maxRecDepth 100000 in
set_option maxHeartbeats 4000000 in
theorem c_X4_measureDepths {l : Launch} {G : Gm} {c : HP} {h a1 a2 m t ta : Nat} {E D : Nat → Int} {T : List Int × Int} (hG : injG G) (hgd : Gd T.1) (hml : m = T.1.length) (hE : ∀ j, j < m → E j = (en T.1 j : Nat)) (x1 : h ≠ t) (x2 : h ≠ ta) (x3 : a1 ≠ t) (x4 : a1 ≠ ta) (x5 : a2 ≠ t) (x6 : a2 ≠ ta) (hT : Tm G c t ta T) (hO : Ol G c h a1 a2 m E D) : AMet l G yX4_measureDepths cX4_measureDepths 4 (none) (rmR 1 22) [.ref (G.1 h), .ref (G.1 t)] c (Qv (fun c' => ∃ D', Ol G c' h a1 a2 m E D' ∧ (∀ j, j < m → D' j = (dp T.1 j : Nat)) ∧ (∀ k, k ≠ a2 → c' k = c k))) := by
  refine AMet.of (vl := [some (.ref (G.1 h)), some (.ref (G.1 t))]) (by decide) hG (Nat.le_of_ble_eq_true rfl) rfl ?_
  intro K X
  have X : Fx l G K cX4_measureDepths 4 RX4 (none) (rmR 1 22) := X
  have hlen := hT.len
  have hpos := hgd.pos
  refine A_aload_n (q := 1) X dX4_measureDepths_0 rfl rfl ?_
  refine A_iconst (q := 2) X dX4_measureDepths_1 rfl ?_
  refine A_iconst (q := 3) X dX4_measureDepths_2 rfl ?_
  refine A_V2v (q := 6) X (c_X4_setDepth hG hO (by decide)) mX4_setDepth kX4_47 dX4_measureDepths_3 hO.lt hO.cell rfl (by decide) (Nat.le_of_ble_eq_true rfl) rfl (fun cq_2 hq_1 => ?_)
  obtain ⟨hO_3, hf_4⟩ := hq_1
  refine A_iconst (q := 7) X dX4_measureDepths_6 rfl ?_
  refine A_istore_n (q := 8) X dX4_measureDepths_7 (by decide) (okP_s rfl rfl) rfl ?_
  have hO9 := hO_3
  rw [olU_in (k := 0) (by omega) (by omega)] at hO9
  exact AW.loc (sS rfl (sS rfl (sZ rfl (by omega) (sN sE)))) (lp_X4_measureDepths X hG hgd hml hE x1 x2 x3 x4 x5 x6 _ 0 _ _ [0] (Nat.lt_succ_self _) (Nat.zero_le _) (hT.keep ((hf_4 t (by omega)).trans rfl) ((hf_4 ta (by omega)).trans rfl)) hO9 (pnd_0 hgd) rfl (fun k hk => by have : k = 0 := Nat.lt_one_iff.mp hk; subst this; rw [sk_0]; exact lk_eq) (fun j hj => absurd hj (Nat.not_lt_zero j)) hf_4)
set_option maxRecDepth 100000 in
set_option maxHeartbeats 4000000 in
theorem c_X4_measure {l : Launch} {G : Gm} {c : HP} {h a1 a2 m t ta : Nat} {E D : Nat → Int} {T : List Int × Int} (hG : injG G) (hgd : Gd T.1) (x1 : h ≠ t) (x2 : h ≠ ta) (x3 : a1 ≠ t) (x4 : a1 ≠ ta) (x5 : a2 ≠ t) (x6 : a2 ≠ ta) (hT : Tm G c t ta T) (hO : Ol G c h a1 a2 m E D) : AMet l G yX4_measure cX4_measure 2 (none) (rmR 2 45) [.ref (G.1 h), .ref (G.1 t)] c (Qv (fun c' => ∃ E' D', Ol G c' h a1 a2 T.1.length E' D' ∧ (∀ j, j < T.1.length → E' j = (en T.1 j : Nat)) ∧ (∀ j, j < T.1.length → D' j = (dp T.1 j : Nat)) ∧ (∀ k, k ≠ h → k ≠ a1 → k ≠ a2 → c' k = c k))) := by
  refine AMet.of (vl := [some (.ref (G.1 h)), some (.ref (G.1 t))]) (by decide) hG (Nat.le_of_ble_eq_true rfl) rfl ?_
  intro K X
  have X : Fx l G K cX4_measure 2 RX4 (none) (rmR 2 45) := X
  obtain ⟨hN0, hN1, hN2, n01, n02, n12, hm, hh, h1, h2⟩ := hO
  have hlen := hT.len
  refine A_aload_n (q := 1) X dX4_measure_0 rfl rfl ?_
  refine A_aload_n (q := 2) X dX4_measure_1 rfl rfl ?_
  refine A_V0i (q := 5) X (c_X6_length hG hT) mX6_length kX4_22 dX4_measure_2 hT.lt hT.cell rfl (by decide) (Nat.le_of_ble_eq_true rfl) rfl (fun vq_3 cq_2 hq_1 => ?_)
  obtain ⟨rfl, hq_1⟩ := hq_1
  obtain rfl := hq_1.symm
  refine A_sipush (q := 8) X dX4_measure_5 (by decide) rfl ?_
  refine A_mmin (q := 11) X dX4_measure_8 kX4_27 q_min1 q_math1 q_min2 (by omega) (by decide) (by decide) (Nat.le_of_ble_eq_true rfl) rfl ?_
  rw [show min ((T.1.length : Nat) : Int) 200 = ((T.1.length : Nat) : Int) by omega]
  refine A_putf (q := 14) X pX4_18 dX4_measure_11 hN0 hh (Nat.le_of_ble_eq_true rfl) rfl rfl rfl ?_
  refine A_aload_n (q := 15) X dX4_measure_14 rfl rfl ?_
  refine A_aload_n (q := 16) X dX4_measure_15 rfl rfl ?_
  have hO2 : Ol G (va_up c h (.inr (4, [.ref (G.1 a1), .ref (G.1 a2), .int (zI ((T.1.length : Nat) : Int))]))) h a1 a2 T.1.length E D := ⟨hN0, hN1, hN2, n01, n02, n12, hlen, lk_eq, lk_ne (by omega) h1, lk_ne (by omega) h2⟩
  refine A_V1v (q := 19) X (c_X4_measureEnds hG hgd rfl x1 x2 x3 x4 x5 x6 (hT.keep (lk_ne (by omega) rfl) (lk_ne (by omega) rfl)) hO2) mX4_measureEnds kX4_33 dX4_measure_16 hN0 hO2.cell rfl (by decide) (Nat.le_of_ble_eq_true rfl) rfl (fun cq_5 hq_4 => ?_)
  obtain ⟨E2, hO3, hE2, hf3⟩ := hq_4
  refine A_aload_n (q := 20) X dX4_measure_19 rfl rfl ?_
  refine A_aload_n (q := 21) X dX4_measure_20 rfl rfl ?_
  refine A_V1v (q := 24) X (c_X4_measureDepths hG hgd rfl hE2 x1 x2 x3 x4 x5 x6 (hT.keep ((hf3 t (by omega)).trans (lk_ne (by omega) rfl)) ((hf3 ta (by omega)).trans (lk_ne (by omega) rfl))) hO3) mX4_measureDepths kX4_37 dX4_measure_21 hN0 hO3.cell rfl (by decide) (Nat.le_of_ble_eq_true rfl) rfl (fun cq_7 hq_6 => ?_)
  obtain ⟨D2, hO4, hD2, hf4⟩ := hq_6
  exact A_return X dX4_measure_24 ⟨E2, D2, hO4, hE2, hD2, fun k n0 n1 n2 => (hf4 k n2).trans ((hf3 k n1).trans (lk_ne n0 rfl))⟩
