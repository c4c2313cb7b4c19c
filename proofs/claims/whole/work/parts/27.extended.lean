/-! EXTENDED: a row of extended tokens; a closure of n entries and shift k is the number 1000000 + 1000 n + k -/
def tkE (t : Int) : Int := if 1000000 ≤ t then 1002 else t
def eeE (t : Int) : Int := if 1000000 ≤ t then ((kn t : Nat) : Int) else 0
def shE (t : Int) : Int := if 1000000 ≤ t then ((kh t : Nat) : Int) else 0
def clo (n k : Nat) : Int := 1000000 + 1000 * (n : Nat) + (k : Nat)
theorem kn_clo {n k : Nat} (h : k < 1000) : kn (clo n k) = n := by unfold kn clo; omega
theorem kh_clo {n k : Nat} (h : k < 1000) : kh (clo n k) = k := by unfold kh clo; omega
theorem clo_ge (n k : Nat) : 1000000 ≤ clo n k := by unfold clo; omega
theorem clo_of {t : Int} (h : 1000000 ≤ t) : clo (kn t) (kh t) = t := by unfold kn kh clo; omega
theorem kh_lt (t : Int) : kh t < 1000 := by unfold kh; omega
theorem tkE_clo (n k : Nat) : tkE (clo n k) = 1002 := by unfold tkE; rw [if_pos (clo_ge n k)]
theorem eeE_clo {n k : Nat} (h : k < 1000) : eeE (clo n k) = (n : Nat) := by unfold eeE; rw [if_pos (clo_ge n k), kn_clo h]
theorem shE_clo {n k : Nat} (h : k < 1000) : shE (clo n k) = (k : Nat) := by unfold shE; rw [if_pos (clo_ge n k), kh_clo h]
theorem tkE_p {t : Int} (h : t < 1000000) : tkE t = t := by unfold tkE; rw [if_neg (by omega)]
theorem eeE_p {t : Int} (h : t < 1000000) : eeE t = 0 := by unfold eeE; rw [if_neg (by omega)]
theorem shE_p {t : Int} (h : t < 1000000) : shE t = 0 := by unfold shE; rw [if_neg (by omega)]
def Ex (G : Gm) (c : HP) (h a1 a2 a3 : Nat) (T : List Int × Int) : Prop := (h < G.2.1 ∧ a1 < G.2.1 ∧ a2 < G.2.1 ∧ a3 < G.2.1) ∧ (h ≠ a1 ∧ h ≠ a2 ∧ h ≠ a3 ∧ a1 ≠ a2 ∧ a1 ≠ a3 ∧ a2 ≠ a3) ∧ T.1.length ≤ 300 ∧ (T.2 = 0 ∨ T.2 = 1) ∧ c h = .inr (0, [.ref (G.1 a1), .ref (G.1 a2), .ref (G.1 a3), .int (zI (T.1.length : Nat)), .int (zI T.2)]) ∧ ∃ F1 F2 F3 : Nat → Int, c a1 = aI G 300 F1 ∧ c a2 = aI G 300 F2 ∧ c a3 = aI G 300 F3 ∧ ∀ k, k < T.1.length → F1 k = tkE (T.1.getD k 0) ∧ F2 k = eeE (T.1.getD k 0) ∧ F3 k = shE (T.1.getD k 0)
theorem Ex.keep {G : Gm} {c c' : HP} {h a1 a2 a3 : Nat} {T : List Int × Int} (q : Ex G c h a1 a2 a3 T) (e0 : c' h = c h) (e1 : c' a1 = c a1) (e2 : c' a2 = c a2) (e3 : c' a3 = c a3) : Ex G c' h a1 a2 a3 T := by
  obtain ⟨h1, h2, h3, h4, h5, F1, F2, F3, g1, g2, g3, g4⟩ := q
  exact ⟨h1, h2, h3, h4, e0.trans h5, F1, F2, F3, e1.trans g1, e2.trans g2, e3.trans g3, g4⟩
theorem Ex.cell {G : Gm} {c : HP} {h a1 a2 a3 : Nat} {T : List Int × Int} (q : Ex G c h a1 a2 a3 T) : c h = .inr (0, [.ref (G.1 a1), .ref (G.1 a2), .ref (G.1 a3), .int (zI (T.1.length : Nat)), .int (zI T.2)]) := q.2.2.2.2.1
theorem Ex.lt {G : Gm} {c : HP} {h a1 a2 a3 : Nat} {T : List Int × Int} (q : Ex G c h a1 a2 a3 T) : h < G.2.1 := q.1.1
theorem Ex.len {G : Gm} {c : HP} {h a1 a2 a3 : Nat} {T : List Int × Int} (q : Ex G c h a1 a2 a3 T) : T.1.length ≤ 300 := q.2.2.1
theorem Ex.b01 {G : Gm} {c : HP} {h a1 a2 a3 : Nat} {T : List Int × Int} (q : Ex G c h a1 a2 a3 T) : T.2 = 0 ∨ T.2 = 1 := q.2.2.2.1
def tkA (l : List Int) (p : Int) : Int := if 0 ≤ p ∧ p < (l.length : Nat) then tkE (l.getD p.toNat 0) else -1
def eeA (l : List Int) (p : Int) : Int := if 0 ≤ p ∧ p < (l.length : Nat) then eeE (l.getD p.toNat 0) else 0
def shA (l : List Int) (p : Int) : Int := if 0 ≤ p ∧ p < (l.length : Nat) then shE (l.getD p.toNat 0) else 0
theorem tkA_in {l : List Int} {k : Nat} {p : Int} (hp : p = (k : Nat)) (h : k < l.length) : tkA l p = tkE (l.getD k 0) := by
  subst hp; unfold tkA; rw [if_pos ⟨by omega, by omega⟩, Int.toNat_natCast]
theorem eeA_in {l : List Int} {k : Nat} {p : Int} (hp : p = (k : Nat)) (h : k < l.length) : eeA l p = eeE (l.getD k 0) := by
  subst hp; unfold eeA; rw [if_pos ⟨by omega, by omega⟩, Int.toNat_natCast]
theorem shA_in {l : List Int} {k : Nat} {p : Int} (hp : p = (k : Nat)) (h : k < l.length) : shA l p = shE (l.getD k 0) := by
  subst hp; unfold shA; rw [if_pos ⟨by omega, by omega⟩, Int.toNat_natCast]
def xAdd (T : List Int × Int) (t : Int) : List Int × Int := if T.1.length < 300 then (T.1 ++ [t], T.2) else (T.1, 1)
def xRange (T : List Int × Int) (l : List Int) (s e : Nat) : List Int × Int := if (e - s) + T.1.length ≤ 300 then (T.1 ++ (l.drop s).take (e - s), T.2) else (T.1, 1)
/-- an extended row whose tokens' numbers are small -/
def XB (l : List Int) : Prop := ∀ t ∈ l, tokB 310 t
theorem XB.tk {l : List Int} (h : XB l) {k : Nat} (hk : k < l.length) : (tkE (l.getD k 0) = 1000 ∨ tkE (l.getD k 0) = 1001 ∨ tkE (l.getD k 0) = 1002 ∨ (0 ≤ tkE (l.getD k 0) ∧ tkE (l.getD k 0) < 310)) ∧ (0 ≤ eeE (l.getD k 0) ∧ eeE (l.getD k 0) ≤ 310) ∧ 0 ≤ shE (l.getD k 0) ∧ shE (l.getD k 0) ≤ 310 := by
  have := h _ (mem_getD hk)
  unfold tkE eeE shE
  rcases this with e | e | e | e
  · rw [e]; decide
  · rw [e]; decide
  · obtain ⟨e1, e2, e3⟩ := e
    rw [if_pos e1, if_pos e1, if_pos e1]
    omega
  · rw [if_neg (by omega), if_neg (by omega), if_neg (by omega)]
    omega
theorem XB_tkA {l : List Int} (h : XB l) (p : Int) : -1 ≤ tkA l p ∧ tkA l p ≤ 1002 := by
  unfold tkA
  split
  · have := (h.tk (k := p.toNat) (by omega)).1
    omega
  · omega
theorem pA_ee {l : List Int} (h : XB l) {k : Nat} (hk : k < l.length) : pA (tkE (l.getD k 0)) + eeE (l.getD k 0) = (prt (l.getD k 0) : Nat) := by
  have := h _ (mem_getD hk)
  unfold tkE eeE pA prt
  rcases this with e | e | e | e
  · rw [e]; decide
  · rw [e]; decide
  · obtain ⟨e1, e2, e3⟩ := e
    rw [if_pos e1, if_pos e1, if_pos e1, if_neg (by decide), if_pos (by decide)]
    omega
  · rw [if_neg (by omega : ¬ (1000000 : Int) ≤ _), if_neg (by omega : ¬ (1000000 : Int) ≤ _), if_neg (by omega : ¬ (1000000 : Int) ≤ _), if_neg (by omega), if_neg (by omega), if_neg (by omega), if_neg (by omega)]
    rfl
theorem XB.prt {l : List Int} (h : XB l) {k : Nat} (hk : k < l.length) : prt (l.getD k 0) ≤ 312 := by
  have h1 := pA_ee h hk
  have h2 := h.tk hk
  have h3 : 0 ≤ pA (tkE (l.getD k 0)) ∧ pA (tkE (l.getD k 0)) ≤ 2 := by
    unfold pA
    split
    · omega
    · split <;> omega
  unfold tkE eeE at *
  split at h2 <;> omega
def bh (l : List Int) (s n : Nat) : Nat := s + sk (l.drop s) n
set_option maxRecDepth 100000 in
set_option maxHeartbeats 4000000 in
theorem c_X0_length {l : Launch} {G : Gm} {c : HP} {h a1 a2 a3 : Nat} {T : List Int × Int} (hG : injG G) (hE : Ex G c h a1 a2 a3 T) : AMet l G yX0_length cX0_length 1 ((some .int)) (rmR 0 0) [.ref (G.1 h)] c (Qi (fun v c' => v = zI (T.1.length : Nat) ∧ c' = c)) := by
  refine AMet.of (vl := [some (.ref (G.1 h))]) (by decide) hG (Nat.le_of_ble_eq_true rfl) rfl ?_
  intro K X
  have X : Fx l G K cX0_length 1 RX0 ((some .int)) (rmR 0 0) := X
  obtain ⟨⟨hN0, hN1, hN2, hN3⟩, ⟨n01, n02, n03, n12, n13, n23⟩, hlen, hb01, hh, F1, F2, F3, g1, g2, g3, hF⟩ := hE
  refine A_aload_n (q := 1) X dX0_length_0 rfl rfl ?_
  refine A_getf (q := 4) X fX0_21 dX0_length_1 hN0 hh rfl rfl ?_
  exact A_ireturn X dX0_length_4 ⟨rfl, rfl⟩
set_option maxRecDepth 100000 in
set_option maxHeartbeats 4000000 in
theorem c_X0_isTooLarge {l : Launch} {G : Gm} {c : HP} {h a1 a2 a3 : Nat} {T : List Int × Int} (hG : injG G) (hE : Ex G c h a1 a2 a3 T) : AMet l G yX0_isTooLarge cX0_isTooLarge 1 ((some .boolean)) (rmR 0 0) [.ref (G.1 h)] c (Qi (fun v c' => v = zI T.2 ∧ c' = c)) := by
  refine AMet.of (vl := [some (.ref (G.1 h))]) (by decide) hG (Nat.le_of_ble_eq_true rfl) rfl ?_
  intro K X
  have X : Fx l G K cX0_isTooLarge 1 RX0 ((some .boolean)) (rmR 0 0) := X
  obtain ⟨⟨hN0, hN1, hN2, hN3⟩, ⟨n01, n02, n03, n12, n13, n23⟩, hlen, hb01, hh, F1, F2, F3, g1, g2, g3, hF⟩ := hE
  refine A_aload_n (q := 1) X dX0_isTooLarge_0 rfl rfl ?_
  refine A_getf (q := 4) X fX0_25 dX0_isTooLarge_1 hN0 hh rfl rfl ?_
  exact A_zreturn X dX0_isTooLarge_4 hb01 ⟨rfl, rfl⟩
set_option maxRecDepth 100000 in
set_option maxHeartbeats 4000000 in
theorem c_X0_token {l : Launch} {G : Gm} {c : HP} {h a1 a2 a3 : Nat} {T : List Int × Int} {p : Int} (hG : injG G) (hE : Ex G c h a1 a2 a3 T) (hp : rg p) : AMet l G yX0_token cX0_token 2 ((some .int)) (rmR 0 0) [.ref (G.1 h), .int (zI p)] c (Qi (fun v c' => v = zI (tkA T.1 p) ∧ c' = c)) := by
  refine AMet.of (vl := [some (.ref (G.1 h)), some (.int (zI p))]) (by decide) hG (Nat.le_of_ble_eq_true rfl) rfl ?_
  intro K X
  have X : Fx l G K cX0_token 2 RX0 ((some .int)) (rmR 0 0) := X
  obtain ⟨⟨hN0, hN1, hN2, hN3⟩, ⟨n01, n02, n03, n12, n13, n23⟩, hlen, hb01, hh, F1, F2, F3, g1, g2, g3, hF⟩ := hE
  refine A_iload_n (q := 1) X dX0_token_0 rfl rfl ?_
  refine A_if_lt (q := 4) (t := 21) X dX0_token_1 (by omega) rfl rfl (fun hb1 => ?_) (fun hb1 => ?_)
  · refine A_iconst (q := 22) X dX0_token_21 rfl ?_
    exact A_ireturn X dX0_token_22 ⟨by unfold tkA; rw [if_neg (by omega)], rfl⟩
  · refine A_iload_n (q := 5) X dX0_token_4 rfl rfl ?_
    refine A_aload_n (q := 6) X dX0_token_5 rfl rfl ?_
    refine A_getf (q := 9) X fX0_21 dX0_token_6 hN0 hh rfl rfl ?_
    refine A_icmp_ge (q := 12) (t := 21) X dX0_token_9 (by omega) (by omega) rfl rfl (fun hb9 => ?_) (fun hb9 => ?_)
    · refine A_iconst (q := 22) X dX0_token_21 rfl ?_
      exact A_ireturn X dX0_token_22 ⟨by unfold tkA; rw [if_neg (by omega)], rfl⟩
    · refine A_aload_n (q := 13) X dX0_token_12 rfl rfl ?_
      refine A_getf (q := 16) X fX0_9 dX0_token_13 hN0 hh rfl rfl ?_
      refine A_iload_n (q := 17) X dX0_token_16 rfl rfl ?_
      refine A_iald (q := 18) (h := a1) ((p).toNat) X dX0_token_17 hN1 g1 (by omega) (by omega) (by decide) rfl ?_
      refine A_goto (q := 22) X dX0_token_18 rfl ?_
      exact A_ireturn X dX0_token_22 ⟨by unfold tkA; rw [if_pos (by omega), (hF _ (by omega)).1], rfl⟩
set_option maxRecDepth 100000 in
set_option maxHeartbeats 4000000 in
theorem c_X0_entriesAt {l : Launch} {G : Gm} {c : HP} {h a1 a2 a3 : Nat} {T : List Int × Int} {p : Int} (hG : injG G) (hE : Ex G c h a1 a2 a3 T) (hp : rg p) : AMet l G yX0_entriesAt cX0_entriesAt 2 ((some .int)) (rmR 0 0) [.ref (G.1 h), .int (zI p)] c (Qi (fun v c' => v = zI (eeA T.1 p) ∧ c' = c)) := by
  refine AMet.of (vl := [some (.ref (G.1 h)), some (.int (zI p))]) (by decide) hG (Nat.le_of_ble_eq_true rfl) rfl ?_
  intro K X
  have X : Fx l G K cX0_entriesAt 2 RX0 ((some .int)) (rmR 0 0) := X
  obtain ⟨⟨hN0, hN1, hN2, hN3⟩, ⟨n01, n02, n03, n12, n13, n23⟩, hlen, hb01, hh, F1, F2, F3, g1, g2, g3, hF⟩ := hE
  refine A_iload_n (q := 1) X dX0_entriesAt_0 rfl rfl ?_
  refine A_if_lt (q := 4) (t := 21) X dX0_entriesAt_1 (by omega) rfl rfl (fun hb1 => ?_) (fun hb1 => ?_)
  · refine A_iconst (q := 22) X dX0_entriesAt_21 rfl ?_
    exact A_ireturn X dX0_entriesAt_22 ⟨by unfold eeA; rw [if_neg (by omega)], rfl⟩
  · refine A_iload_n (q := 5) X dX0_entriesAt_4 rfl rfl ?_
    refine A_aload_n (q := 6) X dX0_entriesAt_5 rfl rfl ?_
    refine A_getf (q := 9) X fX0_21 dX0_entriesAt_6 hN0 hh rfl rfl ?_
    refine A_icmp_ge (q := 12) (t := 21) X dX0_entriesAt_9 (by omega) (by omega) rfl rfl (fun hb9 => ?_) (fun hb9 => ?_)
    · refine A_iconst (q := 22) X dX0_entriesAt_21 rfl ?_
      exact A_ireturn X dX0_entriesAt_22 ⟨by unfold eeA; rw [if_neg (by omega)], rfl⟩
    · refine A_aload_n (q := 13) X dX0_entriesAt_12 rfl rfl ?_
      refine A_getf (q := 16) X fX0_15 dX0_entriesAt_13 hN0 hh rfl rfl ?_
      refine A_iload_n (q := 17) X dX0_entriesAt_16 rfl rfl ?_
      refine A_iald (q := 18) (h := a2) ((p).toNat) X dX0_entriesAt_17 hN2 g2 (by omega) (by omega) (by decide) rfl ?_
      refine A_goto (q := 22) X dX0_entriesAt_18 rfl ?_
      exact A_ireturn X dX0_entriesAt_22 ⟨by unfold eeA; rw [if_pos (by omega), (hF _ (by omega)).2.1], rfl⟩
set_option maxRecDepth 100000 in
set_option maxHeartbeats 4000000 in
theorem c_X0_shiftAt {l : Launch} {G : Gm} {c : HP} {h a1 a2 a3 : Nat} {T : List Int × Int} {p : Int} (hG : injG G) (hE : Ex G c h a1 a2 a3 T) (hp : rg p) : AMet l G yX0_shiftAt cX0_shiftAt 2 ((some .int)) (rmR 0 0) [.ref (G.1 h), .int (zI p)] c (Qi (fun v c' => v = zI (shA T.1 p) ∧ c' = c)) := by
  refine AMet.of (vl := [some (.ref (G.1 h)), some (.int (zI p))]) (by decide) hG (Nat.le_of_ble_eq_true rfl) rfl ?_
  intro K X
  have X : Fx l G K cX0_shiftAt 2 RX0 ((some .int)) (rmR 0 0) := X
  obtain ⟨⟨hN0, hN1, hN2, hN3⟩, ⟨n01, n02, n03, n12, n13, n23⟩, hlen, hb01, hh, F1, F2, F3, g1, g2, g3, hF⟩ := hE
  refine A_iload_n (q := 1) X dX0_shiftAt_0 rfl rfl ?_
  refine A_if_lt (q := 4) (t := 21) X dX0_shiftAt_1 (by omega) rfl rfl (fun hb1 => ?_) (fun hb1 => ?_)
  · refine A_iconst (q := 22) X dX0_shiftAt_21 rfl ?_
    exact A_ireturn X dX0_shiftAt_22 ⟨by unfold shA; rw [if_neg (by omega)], rfl⟩
  · refine A_iload_n (q := 5) X dX0_shiftAt_4 rfl rfl ?_
    refine A_aload_n (q := 6) X dX0_shiftAt_5 rfl rfl ?_
    refine A_getf (q := 9) X fX0_21 dX0_shiftAt_6 hN0 hh rfl rfl ?_
    refine A_icmp_ge (q := 12) (t := 21) X dX0_shiftAt_9 (by omega) (by omega) rfl rfl (fun hb9 => ?_) (fun hb9 => ?_)
    · refine A_iconst (q := 22) X dX0_shiftAt_21 rfl ?_
      exact A_ireturn X dX0_shiftAt_22 ⟨by unfold shA; rw [if_neg (by omega)], rfl⟩
    · refine A_aload_n (q := 13) X dX0_shiftAt_12 rfl rfl ?_
      refine A_getf (q := 16) X fX0_18 dX0_shiftAt_13 hN0 hh rfl rfl ?_
      refine A_iload_n (q := 17) X dX0_shiftAt_16 rfl rfl ?_
      refine A_iald (q := 18) (h := a3) ((p).toNat) X dX0_shiftAt_17 hN3 g3 (by omega) (by omega) (by decide) rfl ?_
      refine A_goto (q := 22) X dX0_shiftAt_18 rfl ?_
      exact A_ireturn X dX0_shiftAt_22 ⟨by unfold shA; rw [if_pos (by omega), (hF _ (by omega)).2.2], rfl⟩
set_option maxRecDepth 100000 in
set_option maxHeartbeats 4000000 in
theorem c_X0_clear {l : Launch} {G : Gm} {c : HP} {h a1 a2 a3 : Nat} {T : List Int × Int} (hG : injG G) (hE : Ex G c h a1 a2 a3 T) : AMet l G yX0_clear cX0_clear 1 (none) (rmR 0 0) [.ref (G.1 h)] c (Qv (fun c' => Ex G c' h a1 a2 a3 ([], 0) ∧ (∀ k, k ≠ h → k ≠ a1 → k ≠ a2 → k ≠ a3 → c' k = c k))) := by
  refine AMet.of (vl := [some (.ref (G.1 h))]) (by decide) hG (Nat.le_of_ble_eq_true rfl) rfl ?_
  intro K X
  have X : Fx l G K cX0_clear 1 RX0 (none) (rmR 0 0) := X
  obtain ⟨⟨hN0, hN1, hN2, hN3⟩, ⟨n01, n02, n03, n12, n13, n23⟩, hlen, hb01, hh, F1, F2, F3, g1, g2, g3, hF⟩ := hE
  refine A_aload_n (q := 1) X dX0_clear_0 rfl rfl ?_
  refine A_iconst (q := 2) X dX0_clear_1 rfl ?_
  refine A_putf (q := 5) X pX0_21 dX0_clear_2 hN0 hh (Nat.le_of_ble_eq_true rfl) rfl rfl rfl ?_
  refine A_aload_n (q := 6) X dX0_clear_5 rfl rfl ?_
  refine A_iconst (q := 7) X dX0_clear_6 rfl ?_
  refine A_putf (q := 10) X pX0_25 dX0_clear_7 hN0 lk_eq (Nat.le_of_ble_eq_true rfl) (bz_ok (Or.inl rfl)).1 (bz_ok (Or.inl rfl)).2 rfl ?_
  exact A_return X dX0_clear_10 ⟨⟨⟨hN0, hN1, hN2, hN3⟩, ⟨n01, n02, n03, n12, n13, n23⟩, by decide, by decide, lk_eq, F1, F2, F3, (lk_ne (by first | assumption | exact Ne.symm (by assumption)) (lk_ne (by first | assumption | exact Ne.symm (by assumption)) g1)), (lk_ne (by first | assumption | exact Ne.symm (by assumption)) (lk_ne (by first | assumption | exact Ne.symm (by assumption)) g2)), (lk_ne (by first | assumption | exact Ne.symm (by assumption)) (lk_ne (by first | assumption | exact Ne.symm (by assumption)) g3)), fun k hk => absurd hk (Nat.not_lt_zero k)⟩, (fun k n0 n1 n2 n3 => (lk_ne (by first | assumption | exact Ne.symm (by assumption)) (lk_ne (by first | assumption | exact Ne.symm (by assumption)) rfl)))⟩
set_option maxRecDepth 100000 in
set_option maxHeartbeats 4000000 in
theorem c_X0_put {l : Launch} {G : Gm} {c : HP} {h a1 a2 a3 : Nat} {T : List Int × Int} {t x y z : Int} (hG : injG G) (hE : Ex G c h a1 a2 a3 T) (e1 : x = tkE t) (e2 : y = eeE t) (e3 : z = shE t) : AMet l G yX0_put cX0_put 4 (none) (rmR 0 0) [.ref (G.1 h), .int (zI x), .int (zI y), .int (zI z)] c (Qv (fun c' => Ex G c' h a1 a2 a3 (xAdd T t) ∧ (∀ k, k ≠ h → k ≠ a1 → k ≠ a2 → k ≠ a3 → c' k = c k))) := by
  refine AMet.of (vl := [some (.ref (G.1 h)), some (.int (zI x)), some (.int (zI y)), some (.int (zI z))]) (by decide) hG (Nat.le_of_ble_eq_true rfl) rfl ?_
  intro K X
  have X : Fx l G K cX0_put 4 RX0 (none) (rmR 0 0) := X
  obtain ⟨⟨hN0, hN1, hN2, hN3⟩, ⟨n01, n02, n03, n12, n13, n23⟩, hlen, hb01, hh, F1, F2, F3, g1, g2, g3, hF⟩ := hE
  refine A_aload_n (q := 1) X dX0_put_0 rfl rfl ?_
  refine A_getf (q := 4) X fX0_21 dX0_put_1 hN0 hh rfl rfl ?_
  refine A_sipush (q := 7) X dX0_put_4 (by decide) rfl ?_
  refine A_icmp_ge (q := 10) (t := 53) X dX0_put_7 (by omega) (by decide) rfl rfl (fun hb7 => ?_) (fun hb7 => ?_)
  · refine A_aload_n (q := 54) X dX0_put_53 rfl rfl ?_
    refine A_iconst (q := 55) X dX0_put_54 rfl ?_
    refine A_putf (q := 58) X pX0_25 dX0_put_55 hN0 hh (Nat.le_of_ble_eq_true rfl) (bz_ok (Or.inr rfl)).1 (bz_ok (Or.inr rfl)).2 rfl ?_
    refine A_return X dX0_put_58 ⟨?_, (fun k n0 n1 n2 n3 => (lk_ne (by first | assumption | exact Ne.symm (by assumption)) rfl))⟩
    unfold xAdd
    rw [if_neg (by omega)]
    exact ⟨⟨hN0, hN1, hN2, hN3⟩, ⟨n01, n02, n03, n12, n13, n23⟩, hlen, Or.inr rfl, lk_eq, F1, F2, F3, (lk_ne (by first | assumption | exact Ne.symm (by assumption)) g1), (lk_ne (by first | assumption | exact Ne.symm (by assumption)) g2), (lk_ne (by first | assumption | exact Ne.symm (by assumption)) g3), hF⟩
  · refine A_aload_n (q := 11) X dX0_put_10 rfl rfl ?_
    refine A_getf (q := 14) X fX0_9 dX0_put_11 hN0 hh rfl rfl ?_
    refine A_aload_n (q := 15) X dX0_put_14 rfl rfl ?_
    refine A_getf (q := 18) X fX0_21 dX0_put_15 hN0 hh rfl rfl ?_
    refine A_iload_n (q := 19) X dX0_put_18 rfl rfl ?_
    refine A_iast (q := 20) (h := a1) (T.1.length) X dX0_put_19 hN1 g1 (by omega) (by omega) (by decide) rfl ?_
    refine A_aload_n (q := 21) X dX0_put_20 rfl rfl ?_
    refine A_getf (q := 24) X fX0_15 dX0_put_21 hN0 (lk_ne (by first | assumption | exact Ne.symm (by assumption)) hh) rfl rfl ?_
    refine A_aload_n (q := 25) X dX0_put_24 rfl rfl ?_
    refine A_getf (q := 28) X fX0_21 dX0_put_25 hN0 (lk_ne (by first | assumption | exact Ne.symm (by assumption)) hh) rfl rfl ?_
    refine A_iload_n (q := 29) X dX0_put_28 rfl rfl ?_
    refine A_iast (q := 30) (h := a2) (T.1.length) X dX0_put_29 hN2 (lk_ne (by first | assumption | exact Ne.symm (by assumption)) g2) (by omega) (by omega) (by decide) rfl ?_
    refine A_aload_n (q := 31) X dX0_put_30 rfl rfl ?_
    refine A_getf (q := 34) X fX0_18 dX0_put_31 hN0 (lk_ne (by first | assumption | exact Ne.symm (by assumption)) (lk_ne (by first | assumption | exact Ne.symm (by assumption)) hh)) rfl rfl ?_
    refine A_aload_n (q := 35) X dX0_put_34 rfl rfl ?_
    refine A_getf (q := 38) X fX0_21 dX0_put_35 hN0 (lk_ne (by first | assumption | exact Ne.symm (by assumption)) (lk_ne (by first | assumption | exact Ne.symm (by assumption)) hh)) rfl rfl ?_
    refine A_iload_n (q := 39) X dX0_put_38 rfl rfl ?_
    refine A_iast (q := 40) (h := a3) (T.1.length) X dX0_put_39 hN3 (lk_ne (by first | assumption | exact Ne.symm (by assumption)) (lk_ne (by first | assumption | exact Ne.symm (by assumption)) g3)) (by omega) (by omega) (by decide) rfl ?_
    refine A_aload_n (q := 41) X dX0_put_40 rfl rfl ?_
    refine A_dup (q := 42) X dX0_put_41 rfl rfl ?_
    refine A_getf (q := 45) X fX0_21 dX0_put_42 hN0 (lk_ne (by first | assumption | exact Ne.symm (by assumption)) (lk_ne (by first | assumption | exact Ne.symm (by assumption)) (lk_ne (by first | assumption | exact Ne.symm (by assumption)) hh))) rfl rfl ?_
    refine A_iconst (q := 46) X dX0_put_45 rfl ?_
    refine A_iadd (q := 47) X dX0_put_46 rfl ?_
    refine A_putf (q := 50) X pX0_21 dX0_put_47 hN0 (lk_ne (by first | assumption | exact Ne.symm (by assumption)) (lk_ne (by first | assumption | exact Ne.symm (by assumption)) (lk_ne (by first | assumption | exact Ne.symm (by assumption)) hh))) (Nat.le_of_ble_eq_true rfl) rfl rfl rfl ?_
    refine A_goto (q := 58) X dX0_put_50 rfl ?_
    refine A_return X dX0_put_58 ⟨?_, (fun k n0 n1 n2 n3 => (lk_ne (by first | assumption | exact Ne.symm (by assumption)) (lk_ne (by first | assumption | exact Ne.symm (by assumption)) (lk_ne (by first | assumption | exact Ne.symm (by assumption)) (lk_ne (by first | assumption | exact Ne.symm (by assumption)) rfl)))))⟩
    unfold xAdd
    rw [if_pos (by omega)]
    refine ⟨⟨hN0, hN1, hN2, hN3⟩, ⟨n01, n02, n03, n12, n13, n23⟩, by simp only [List.length_append, List.length_singleton]; omega, hb01, lk_eq.trans (by simp only [List.length_append, List.length_singleton]; rfl), _, _, _, (lk_ne (by first | assumption | exact Ne.symm (by assumption)) (lk_ne (by first | assumption | exact Ne.symm (by assumption)) (lk_ne (by first | assumption | exact Ne.symm (by assumption)) lk_eq))), (lk_ne (by first | assumption | exact Ne.symm (by assumption)) (lk_ne (by first | assumption | exact Ne.symm (by assumption)) lk_eq)), (lk_ne (by first | assumption | exact Ne.symm (by assumption)) lk_eq), fun k hk => ?_⟩
    simp only [List.length_append, List.length_singleton] at hk
    by_cases e : k = T.1.length
    · subst e
      rw [lk_eq, lk_eq, lk_eq, getD_app_ge (Nat.le_refl _), Nat.sub_self]
      exact ⟨e1, e2, e3⟩
    · rw [lk_ne e rfl, lk_ne e rfl, lk_ne e rfl, getD_app_lt (by omega)]
      exact hF k (by omega)
set_option maxRecDepth 100000 in
set_option maxHeartbeats 4000000 in
theorem c_X0_add {l : Launch} {G : Gm} {c : HP} {h a1 a2 a3 : Nat} {T : List Int × Int} {t : Int} (hG : injG G) (hE : Ex G c h a1 a2 a3 T) (ht : t < 1000000) : AMet l G yX0_add cX0_add 2 (none) (rmR 1 23) [.ref (G.1 h), .int (zI t)] c (Qv (fun c' => Ex G c' h a1 a2 a3 (xAdd T t) ∧ (∀ k, k ≠ h → k ≠ a1 → k ≠ a2 → k ≠ a3 → c' k = c k))) := by
  refine AMet.of (vl := [some (.ref (G.1 h)), some (.int (zI t))]) (by decide) hG (Nat.le_of_ble_eq_true rfl) rfl ?_
  intro K X
  have X : Fx l G K cX0_add 2 RX0 (none) (rmR 1 23) := X
  refine A_aload_n (q := 1) X dX0_add_0 rfl rfl ?_
  refine A_iload_n (q := 2) X dX0_add_1 rfl rfl ?_
  refine A_iconst (q := 3) X dX0_add_2 rfl ?_
  refine A_iconst (q := 4) X dX0_add_3 rfl ?_
  refine A_V3v (q := 7) X (c_X0_put (t := t) hG hE (tkE_p ht).symm (eeE_p ht).symm (shE_p ht).symm) mX0_put kX0_29 dX0_add_4 hE.lt hE.cell rfl (by decide) (Nat.le_of_ble_eq_true rfl) rfl (fun cq_2 hq_1 => ?_)
  obtain ⟨hE_3, hf_4⟩ := hq_1
  exact A_return X dX0_add_7 ⟨hE_3, hf_4⟩
set_option maxRecDepth 100000 in
set_option maxHeartbeats 4000000 in
theorem c_X0_addClosure {l : Launch} {G : Gm} {c : HP} {h a1 a2 a3 : Nat} {T : List Int × Int} {n k : Nat} (hG : injG G) (hE : Ex G c h a1 a2 a3 T) (hk : k < 1000) : AMet l G yX0_addClosure cX0_addClosure 3 (none) (rmR 1 23) [.ref (G.1 h), .int (zI ((n : Nat) : Int)), .int (zI ((k : Nat) : Int))] c (Qv (fun c' => Ex G c' h a1 a2 a3 (xAdd T (clo n k)) ∧ (∀ k, k ≠ h → k ≠ a1 → k ≠ a2 → k ≠ a3 → c' k = c k))) := by
  refine AMet.of (vl := [some (.ref (G.1 h)), some (.int (zI ((n : Nat) : Int))), some (.int (zI ((k : Nat) : Int)))]) (by decide) hG (Nat.le_of_ble_eq_true rfl) rfl ?_
  intro K X
  have X : Fx l G K cX0_addClosure 3 RX0 (none) (rmR 1 23) := X
  refine A_aload_n (q := 1) X dX0_addClosure_0 rfl rfl ?_
  refine A_sipush (q := 4) X dX0_addClosure_1 (by decide) rfl ?_
  refine A_iload_n (q := 5) X dX0_addClosure_4 rfl rfl ?_
  refine A_iload_n (q := 6) X dX0_addClosure_5 rfl rfl ?_
  refine A_V3v (q := 9) X (c_X0_put (t := (clo n k)) hG hE (tkE_clo n k).symm (eeE_clo hk).symm (shE_clo hk).symm) mX0_put kX0_29 dX0_addClosure_6 hE.lt hE.cell rfl (by decide) (Nat.le_of_ble_eq_true rfl) rfl (fun cq_2 hq_1 => ?_)
  obtain ⟨hE_3, hf_4⟩ := hq_1
  exact A_return X dX0_addClosure_9 ⟨hE_3, hf_4⟩
set_option maxRecDepth 100000 in
set_option maxHeartbeats 4000000 in
theorem c_X0_addRange {l : Launch} {G : Gm} {c : HP} {h a1 a2 a3 : Nat} {T : List Int × Int} {h2 b1 b2 b3 i j : Nat} {S : List Int × Int} (hG : injG G) (hE : Ex G c h a1 a2 a3 T) (hS : Ex G c h2 b1 b2 b3 S) (y0 : h ≠ h2) (y1 : h ≠ b1) (y2 : h ≠ b2) (y3 : h ≠ b3) (y4 : a1 ≠ h2) (y5 : a1 ≠ b1) (y6 : a1 ≠ b2) (y7 : a1 ≠ b3) (y8 : a2 ≠ h2) (y9 : a2 ≠ b1) (y10 : a2 ≠ b2) (y11 : a2 ≠ b3) (y12 : a3 ≠ h2) (y13 : a3 ≠ b1) (y14 : a3 ≠ b2) (y15 : a3 ≠ b3) (hi : i ≤ j) (hj : j ≤ S.1.length) : AMet l G yX0_addRange cX0_addRange 5 (none) (rmR 1 40) [.ref (G.1 h), .ref (G.1 h2), .int (zI ((i : Nat) : Int)), .int (zI ((j : Nat) : Int))] c (Qv (fun c' => Ex G c' h a1 a2 a3 (xRange T S.1 i j) ∧ (∀ k, k ≠ h → k ≠ a1 → k ≠ a2 → k ≠ a3 → c' k = c k))) := by
  refine AMet.of (vl := [some (.ref (G.1 h)), some (.ref (G.1 h2)), some (.int (zI ((i : Nat) : Int))), some (.int (zI ((j : Nat) : Int)))]) (by decide) hG (Nat.le_of_ble_eq_true rfl) rfl ?_
  intro K X
  have X : Fx l G K cX0_addRange 5 RX0 (none) (rmR 1 40) := X
  obtain ⟨⟨hN0, hN1, hN2, hN3⟩, ⟨n01, n02, n03, n12, n13, n23⟩, hlen, hb01, hh, F1, F2, F3, g1, g2, g3, hF⟩ := hE
  obtain ⟨⟨hM0, hM1, hM2, hM3⟩, ⟨m01, m02, m03, m12, m13, m23⟩, hlem, hc01, hh2, E1, E2, E3, k1, k2, k3, hFS⟩ := hS
  refine A_iload_n (q := 1) X dX0_addRange_0 rfl rfl ?_
  refine A_if_lt (q := 4) (t := 17) X dX0_addRange_1 (by omega) rfl rfl (fun hb1 => ?_) (fun hb1 => ?_)
  · exfalso
    omega
  · refine A_iload_n (q := 5) X dX0_addRange_4 rfl rfl ?_
    refine A_iload_n (q := 6) X dX0_addRange_5 rfl rfl ?_
    refine A_icmp_gt (q := 9) (t := 17) X dX0_addRange_6 (by omega) (by omega) rfl rfl (fun hb6 => ?_) (fun hb6 => ?_)
    · exfalso
      omega
    · refine A_iload_n (q := 10) X dX0_addRange_9 rfl rfl ?_
      refine A_aload_n (q := 11) X dX0_addRange_10 rfl rfl ?_
      refine A_getf (q := 14) X fX0_21 dX0_addRange_11 hM0 hh2 rfl rfl ?_
      refine A_icmp_le (q := 17) (t := 18) X dX0_addRange_14 (by omega) (by omega) rfl rfl (fun hb14 => ?_) (fun hb14 => ?_)
      · refine A_iload_n (q := 19) X dX0_addRange_18 rfl rfl ?_
        refine A_iload_n (q := 20) X dX0_addRange_19 rfl rfl ?_
        refine A_isub (q := 21) X dX0_addRange_20 rfl ?_
        refine A_istore (q := 23) X dX0_addRange_21 (by decide) (okP_s rfl rfl) rfl ?_
        refine A_iload (q := 25) X dX0_addRange_23 rfl rfl ?_
        refine A_sipush (q := 28) X dX0_addRange_25 (by decide) rfl ?_
        refine A_aload_n (q := 29) X dX0_addRange_28 rfl rfl ?_
        refine A_getf (q := 32) X fX0_21 dX0_addRange_29 hN0 hh rfl rfl ?_
        refine A_isub (q := 33) X dX0_addRange_32 rfl ?_
        refine A_icmp_le (q := 36) (t := 42) X dX0_addRange_33 (by omega) (by omega) rfl rfl (fun hb33 => ?_) (fun hb33 => ?_)
        · refine A_aload_n (q := 43) X dX0_addRange_42 rfl rfl ?_
          refine A_getf (q := 46) X fX0_9 dX0_addRange_43 hM0 hh2 rfl rfl ?_
          refine A_iload_n (q := 47) X dX0_addRange_46 rfl rfl ?_
          refine A_aload_n (q := 48) X dX0_addRange_47 rfl rfl ?_
          refine A_getf (q := 51) X fX0_9 dX0_addRange_48 hN0 hh rfl rfl ?_
          refine A_aload_n (q := 52) X dX0_addRange_51 rfl rfl ?_
          refine A_getf (q := 55) X fX0_21 dX0_addRange_52 hN0 hh rfl rfl ?_
          refine A_iload (q := 57) X dX0_addRange_55 rfl rfl ?_
          refine A_copy (q := 60) (i) (T.1.length) ((j) - (i)) X dX0_addRange_57 kX0_33 q_cp1 q_cp2 q_cp3 hM1 hN1 (k1) (g1) (by omega) (by omega) (by omega) (by omega) (by omega) (by decide) (by decide) (by decide) (Nat.le_of_ble_eq_true rfl) rfl ?_
          refine A_aload_n (q := 61) X dX0_addRange_60 rfl rfl ?_
          refine A_getf (q := 64) X fX0_15 dX0_addRange_61 hM0 (lk_ne (by first | assumption | exact Ne.symm (by assumption)) hh2) rfl rfl ?_
          refine A_iload_n (q := 65) X dX0_addRange_64 rfl rfl ?_
          refine A_aload_n (q := 66) X dX0_addRange_65 rfl rfl ?_
          refine A_getf (q := 69) X fX0_15 dX0_addRange_66 hN0 (lk_ne (by first | assumption | exact Ne.symm (by assumption)) hh) rfl rfl ?_
          refine A_aload_n (q := 70) X dX0_addRange_69 rfl rfl ?_
          refine A_getf (q := 73) X fX0_21 dX0_addRange_70 hN0 (lk_ne (by first | assumption | exact Ne.symm (by assumption)) hh) rfl rfl ?_
          refine A_iload (q := 75) X dX0_addRange_73 rfl rfl ?_
          refine A_copy (q := 78) (i) (T.1.length) ((j) - (i)) X dX0_addRange_75 kX0_33 q_cp1 q_cp2 q_cp3 hM2 hN2 ((lk_ne (by first | assumption | exact Ne.symm (by assumption)) k2)) ((lk_ne (by first | assumption | exact Ne.symm (by assumption)) g2)) (by omega) (by omega) (by omega) (by omega) (by omega) (by decide) (by decide) (by decide) (Nat.le_of_ble_eq_true rfl) rfl ?_
          refine A_aload_n (q := 79) X dX0_addRange_78 rfl rfl ?_
          refine A_getf (q := 82) X fX0_18 dX0_addRange_79 hM0 (lk_ne (by first | assumption | exact Ne.symm (by assumption)) (lk_ne (by first | assumption | exact Ne.symm (by assumption)) hh2)) rfl rfl ?_
          refine A_iload_n (q := 83) X dX0_addRange_82 rfl rfl ?_
          refine A_aload_n (q := 84) X dX0_addRange_83 rfl rfl ?_
          refine A_getf (q := 87) X fX0_18 dX0_addRange_84 hN0 (lk_ne (by first | assumption | exact Ne.symm (by assumption)) (lk_ne (by first | assumption | exact Ne.symm (by assumption)) hh)) rfl rfl ?_
          refine A_aload_n (q := 88) X dX0_addRange_87 rfl rfl ?_
          refine A_getf (q := 91) X fX0_21 dX0_addRange_88 hN0 (lk_ne (by first | assumption | exact Ne.symm (by assumption)) (lk_ne (by first | assumption | exact Ne.symm (by assumption)) hh)) rfl rfl ?_
          refine A_iload (q := 93) X dX0_addRange_91 rfl rfl ?_
          refine A_copy (q := 96) (i) (T.1.length) ((j) - (i)) X dX0_addRange_93 kX0_33 q_cp1 q_cp2 q_cp3 hM3 hN3 ((lk_ne (by first | assumption | exact Ne.symm (by assumption)) (lk_ne (by first | assumption | exact Ne.symm (by assumption)) k3))) ((lk_ne (by first | assumption | exact Ne.symm (by assumption)) (lk_ne (by first | assumption | exact Ne.symm (by assumption)) g3))) (by omega) (by omega) (by omega) (by omega) (by omega) (by decide) (by decide) (by decide) (Nat.le_of_ble_eq_true rfl) rfl ?_
          refine A_aload_n (q := 97) X dX0_addRange_96 rfl rfl ?_
          refine A_dup (q := 98) X dX0_addRange_97 rfl rfl ?_
          refine A_getf (q := 101) X fX0_21 dX0_addRange_98 hN0 (lk_ne (by first | assumption | exact Ne.symm (by assumption)) (lk_ne (by first | assumption | exact Ne.symm (by assumption)) (lk_ne (by first | assumption | exact Ne.symm (by assumption)) hh))) rfl rfl ?_
          refine A_iload (q := 103) X dX0_addRange_101 rfl rfl ?_
          refine A_iadd (q := 104) X dX0_addRange_103 rfl ?_
          refine A_putf (q := 107) X pX0_21 dX0_addRange_104 hN0 (lk_ne (by first | assumption | exact Ne.symm (by assumption)) (lk_ne (by first | assumption | exact Ne.symm (by assumption)) (lk_ne (by first | assumption | exact Ne.symm (by assumption)) hh))) (Nat.le_of_ble_eq_true rfl) rfl rfl rfl ?_
          refine A_return X dX0_addRange_107 ⟨?_, (fun k n0 n1 n2 n3 => (lk_ne (by first | assumption | exact Ne.symm (by assumption)) (lk_ne (by first | assumption | exact Ne.symm (by assumption)) (lk_ne (by first | assumption | exact Ne.symm (by assumption)) (lk_ne (by first | assumption | exact Ne.symm (by assumption)) rfl)))))⟩
          unfold xRange
          rw [if_pos (by omega)]
          have el : (T.1 ++ (S.1.drop i).take (j - i)).length = T.1.length + (j - i) := by rw [List.length_append, List.length_take, List.length_drop]; omega
          refine ⟨⟨hN0, hN1, hN2, hN3⟩, ⟨n01, n02, n03, n12, n13, n23⟩, by show (T.1 ++ (S.1.drop i).take (j - i)).length ≤ 300; omega, hb01, lk_eq.trans ?_, _, _, _, (lk_ne (by first | assumption | exact Ne.symm (by assumption)) (lk_ne (by first | assumption | exact Ne.symm (by assumption)) (lk_ne (by first | assumption | exact Ne.symm (by assumption)) lk_eq))), (lk_ne (by first | assumption | exact Ne.symm (by assumption)) (lk_ne (by first | assumption | exact Ne.symm (by assumption)) lk_eq)), (lk_ne (by first | assumption | exact Ne.symm (by assumption)) lk_eq), fun k hk => ?_⟩
          · have e2 : ((T.1.length : Nat) : Int) + (((j : Nat) : Int) - ((i : Nat) : Int)) = (((T.1 ++ (S.1.drop i).take (j - i)).length : Nat) : Int) := by rw [el]; omega
            show Sum.inr _ = Sum.inr _
            rw [← e2]
            rfl
          · have hk2 : k < T.1.length + (j - i) := by rw [← el]; exact hk
            by_cases e : k < T.1.length
            · rw [pk_cpy_out (Or.inl e), pk_cpy_out (Or.inl e), pk_cpy_out (Or.inl e), getD_app_lt e]
              exact hF k e
            · rw [pk_cpy_in (by omega) (by omega), pk_cpy_in (by omega) (by omega), pk_cpy_in (by omega) (by omega), getD_app_ge (by omega), getD_range (by omega)]
              exact hFS _ (by omega)
        · refine A_aload_n (q := 37) X dX0_addRange_36 rfl rfl ?_
          refine A_iconst (q := 38) X dX0_addRange_37 rfl ?_
          refine A_putf (q := 41) X pX0_25 dX0_addRange_38 hN0 hh (Nat.le_of_ble_eq_true rfl) (bz_ok (Or.inr rfl)).1 (bz_ok (Or.inr rfl)).2 rfl ?_
          refine A_return X dX0_addRange_41 ⟨?_, (fun k n0 n1 n2 n3 => (lk_ne (by first | assumption | exact Ne.symm (by assumption)) rfl))⟩
          unfold xRange
          rw [if_neg (by omega)]
          exact ⟨⟨hN0, hN1, hN2, hN3⟩, ⟨n01, n02, n03, n12, n13, n23⟩, hlen, Or.inr rfl, lk_eq, F1, F2, F3, (lk_ne (by first | assumption | exact Ne.symm (by assumption)) g1), (lk_ne (by first | assumption | exact Ne.symm (by assumption)) g2), (lk_ne (by first | assumption | exact Ne.symm (by assumption)) g3), hF⟩
      · exfalso
        omega
set_option maxRecDepth 100000 in
set_option maxHeartbeats 4000000 in
theorem lp_X0_behind {l : Launch} {G : Gm} {K : Cx} {c : HP} {h a1 a2 a3 s n0 : Nat} {T : List Int × Int} (X : Fx l G K cX0_behind 5 RX0 ((some .int)) (rmR 1 21)) (hG : injG G) (hE : Ex G c h a1 a2 a3 T) (hXB : XB T.1) : ∀ (n : Nat) (i : Nat) (m : Nat), 1000 - i < n → i ≤ 700 → m ≤ 1000 + 400 * i → bh T.1 s n0 = bh T.1 i m → AW G K (Qi (fun v c' => v = zI (bh T.1 s n0 : Nat) ∧ c' = c)) 5 (mkL [some (.ref (G.1 h)), none, none, some (.int (zI ((m : Nat) : Int))), some (.int (zI ((i : Nat) : Int)))]) [] c := by
  intro n
  induction n with
  | zero => intro i m hmz; exact absurd hmz (Nat.not_lt_zero _)
  | succ n ih =>
    intro i m hmz hi hm he
    have hlen := hE.len
    refine A_iload_n (q := 6) X dX0_behind_5 rfl rfl ?_
    refine A_if_le (q := 9) (t := 45) X dX0_behind_6 (by omega) rfl rfl (fun hb6 => ?_) (fun hb6 => ?_)
    · refine A_iload (q := 47) X dX0_behind_45 rfl rfl ?_
      exact A_ireturn X dX0_behind_47 ⟨by rw [he, show m = 0 by omega]; unfold bh; rw [sk_0, Nat.add_zero], rfl⟩
    · refine A_iload (q := 11) X dX0_behind_9 rfl rfl ?_
      refine A_aload_n (q := 12) X dX0_behind_11 rfl rfl ?_
      refine A_getf (q := 15) X fX0_21 dX0_behind_12 hE.lt hE.cell rfl rfl ?_
      refine A_icmp_ge (q := 18) (t := 45) X dX0_behind_15 (by omega) (by omega) rfl rfl (fun hb15 => ?_) (fun hb15 => ?_)
      · refine A_iload (q := 47) X dX0_behind_45 rfl rfl ?_
        exact A_ireturn X dX0_behind_47 ⟨by rw [he]; unfold bh; rw [List.drop_eq_nil_of_le (by omega), sk_nil, Nat.add_zero], rfl⟩
      · have hil : i < T.1.length := by omega
        have htk := hXB.tk hil
        have hpe := pA_ee hXB hil
        have hpp := hXB.prt hil
        refine A_iload_n (q := 19) X dX0_behind_18 rfl rfl ?_
        refine A_aload_n (q := 20) X dX0_behind_19 rfl rfl ?_
        refine A_iload (q := 22) X dX0_behind_20 rfl rfl ?_
        refine A_V1i (q := 25) X (c_X0_token hG hE (by omega)) mX0_token kX0_39 dX0_behind_22 hE.lt hE.cell rfl (by decide) (Nat.le_of_ble_eq_true rfl) rfl (fun vq_3 cq_2 hq_1 => ?_)
        obtain ⟨rfl, hq_1⟩ := hq_1
        obtain rfl := hq_1.symm
        rw [tkA_in rfl hil]
        refine A_N1i (q := 28) X (c_X8_parts hG (by omega)) mX8_parts (by decide +kernel) dX0_behind_25 (by decide) (Nat.le_of_ble_eq_true rfl) rfl (fun vq_6 cq_5 hq_4 => ?_)
        obtain ⟨rfl, hq_4⟩ := hq_4
        obtain rfl := hq_4.symm
        refine A_aload_n (q := 29) X dX0_behind_28 rfl rfl ?_
        refine A_iload (q := 31) X dX0_behind_29 rfl rfl ?_
        refine A_V1i (q := 34) X (c_X0_entriesAt hG hE (by omega)) mX0_entriesAt kX0_46 dX0_behind_31 hE.lt hE.cell rfl (by decide) (Nat.le_of_ble_eq_true rfl) rfl (fun vq_9 cq_8 hq_7 => ?_)
        obtain ⟨rfl, hq_7⟩ := hq_7
        obtain rfl := hq_7.symm
        rw [eeA_in rfl hil]
        refine A_iadd (q := 35) X dX0_behind_34 rfl ?_
        refine A_iconst (q := 36) X dX0_behind_35 rfl ?_
        refine A_isub (q := 37) X dX0_behind_36 rfl ?_
        refine A_iadd (q := 38) X dX0_behind_37 rfl ?_
        refine A_istore_n (q := 39) X dX0_behind_38 (by decide) (okP_n rfl) rfl ?_
        refine A_iinc (q := 42) X dX0_behind_39 rfl (by decide) (okP_s rfl rfl) rfl ?_
        refine A_goto (q := 5) X dX0_behind_42 rfl ?_
        refine AW.loc (sS rfl (sN (sN (sZ rfl (by omega) (sZ rfl (by omega) sE))))) (ih (i + 1) (m - 1 + prt (T.1.getD i 0)) (by omega) (by omega) (by omega) ?_)
        rw [he]
        unfold bh
        obtain ⟨m2, rfl⟩ : ∃ m2, m = m2 + 1 := ⟨m - 1, by omega⟩
        rw [drop_cons hil]
        show i + (1 + sk (T.1.drop (i + 1)) (m2 + prt (T.1.getD i 0))) = _
        rw [show m2 + 1 - 1 + prt (T.1.getD i 0) = m2 + prt (T.1.getD i 0) by omega]
        omega
set_option maxRecDepth 100000 in
set_option maxHeartbeats 4000000 in
theorem c_X0_behind {l : Launch} {G : Gm} {c : HP} {h a1 a2 a3 : Nat} {T : List Int × Int} {s n0 : Nat} (hG : injG G) (hE : Ex G c h a1 a2 a3 T) (hXB : XB T.1) (hs : s ≤ 700) (hn : n0 ≤ 1000) : AMet l G yX0_behind cX0_behind 5 ((some .int)) (rmR 1 21) [.ref (G.1 h), .int (zI ((s : Nat) : Int)), .int (zI ((n0 : Nat) : Int))] c (Qi (fun v c' => v = zI (bh T.1 s n0 : Nat) ∧ c' = c)) := by
  refine AMet.of (vl := [some (.ref (G.1 h)), some (.int (zI ((s : Nat) : Int))), some (.int (zI ((n0 : Nat) : Int)))]) (by decide) hG (Nat.le_of_ble_eq_true rfl) rfl ?_
  intro K X
  have X : Fx l G K cX0_behind 5 RX0 ((some .int)) (rmR 1 21) := X
  refine A_iload_n (q := 1) X dX0_behind_0 rfl rfl ?_
  refine A_istore_n (q := 2) X dX0_behind_1 (by decide) (okP_s rfl rfl) rfl ?_
  refine A_iload_n (q := 3) X dX0_behind_2 rfl rfl ?_
  refine A_istore (q := 5) X dX0_behind_3 (by decide) (okP_s rfl rfl) rfl ?_
  exact AW.loc (sS rfl (sN (sN (sS rfl (sS rfl sE))))) (lp_X0_behind X hG hE hXB _ s n0 (Nat.lt_succ_self _) hs (by omega) rfl)
