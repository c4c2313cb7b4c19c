/-! HISTORY: a ring of rows -/
def HsR (hs : List (List Int)) (p : Nat) (Ln : Nat → Int) (Fs : Nat → Nat → Int) : Prop := ∀ k, k < hs.length → Ln ((p + 13 - k) % 14) = ((hs.getD k []).length : Nat) ∧ ∀ j, j < (hs.getD k []).length → Fs ((p + 13 - k) % 14) j = (hs.getD k []).getD j 0
def Hs (G : Gm) (c : HP) (hs : List (List Int)) : Prop := ∃ (p : Nat) (Ln : Nat → Int) (Fs : Nat → Nat → Int), p < 14 ∧ hs.length ≤ 14 ∧ c 33 = .inr (1, [.ref (G.1 34), .ref (G.1 35), .int (zI (hs.length : Nat)), .int (zI (p : Nat))]) ∧ c 34 = aQ G 14 (fun i => 41 + i) ∧ c 35 = aI G 14 Ln ∧ (∀ i, i < 14 → c (41 + i) = aI G 200 (Fs i)) ∧ (∀ q ∈ hs, Gd q) ∧ HsR hs p Ln Fs
theorem Hs.keep {G : Gm} {c c' : HP} {hs : List (List Int)} (h : Hs G c hs) (e : ∀ k, (33 ≤ k ∧ k ≤ 35) ∨ (41 ≤ k ∧ k ≤ 54) → c' k = c k) : Hs G c' hs := by
  obtain ⟨p, Ln, Fs, h1, h2, h3, h4, h5, h6, h7, h8⟩ := h
  exact ⟨p, Ln, Fs, h1, h2, (e 33 (by omega)).trans h3, (e 34 (by omega)).trans h4, (e 35 (by omega)).trans h5, fun i hi => (e (41 + i) (by omega)).trans (h6 i hi), h7, h8⟩
theorem Hs.cell {G : Gm} {c : HP} {hs : List (List Int)} (h : Hs G c hs) : ∃ p : Nat, c 33 = .inr (1, [.ref (G.1 34), .ref (G.1 35), .int (zI (hs.length : Nat)), .int (zI (p : Nat))]) := by
  obtain ⟨p, Ln, Fs, h1, h2, h3, h4⟩ := h
  exact ⟨p, h3⟩
theorem HsR_push {hs : List (List Int)} {p : Nat} {Ln : Nat → Int} {Fs : Nat → Nat → Int} {l : List Int} {F : Nat → Int} (hp : p < 14) (hl : hs.length ≤ 14) (h : HsR hs p Ln Fs) (hF : ∀ j, j < l.length → F j = l.getD j 0) : HsR ((l :: hs).take 14) ((p + 1) % 14) (va_up Ln p (l.length : Nat)) (va_up Fs p F) := by
  intro k hk
  rw [List.length_take, List.length_cons] at hk
  have e : ((l :: hs).take 14).getD k [] = (l :: hs).getD k [] := by
    simp only [List.getD_eq_getElem?_getD]
    rw [List.getElem?_take_of_lt (by omega)]
  rw [e]
  cases k with
  | zero =>
    have e1 : ((p + 1) % 14 + 13 - 0) % 14 = p := by omega
    rw [e1, lk_eq, lk_eq]
    exact ⟨rfl, hF⟩
  | succ k =>
    have e1 : ((p + 1) % 14 + 13 - (k + 1)) % 14 = (p + 13 - k) % 14 := by omega
    rw [e1, lk_ne (by omega) rfl, lk_ne (by omega) rfl]
    exact h k (by omega)
theorem HsR_pop {hs : List (List Int)} {p : Nat} {Ln : Nat → Int} {Fs : Nat → Nat → Int} {l : List Int} (hp : p < 14) (hl : (l :: hs).length ≤ 14) (h : HsR (l :: hs) p Ln Fs) : HsR hs ((p + 13) % 14) Ln Fs := by
  intro k hk
  have := h (k + 1) (by rw [List.length_cons]; omega)
  rw [List.length_cons] at hl
  rw [show (p + 13 - (k + 1)) % 14 = ((p + 13) % 14 + 13 - k) % 14 by omega] at this
  exact this
set_option maxRecDepth 100000 in
set_option maxHeartbeats 4000000 in
theorem c_X1_count {l : Launch} {G : Gm} {c : HP} {hs : List (List Int)} (hG : injG G) (hN : G.2.1 = 72) (hH : Hs G c hs) : AMet l G yX1_count cX1_count 1 ((some .int)) (rmR 0 0) [.ref (G.1 33)] c (Qi (fun v c' => v = zI (hs.length : Nat) ∧ c' = c)) := by
  refine AMet.of (vl := [some (.ref (G.1 33))]) (by decide) hG (Nat.le_of_ble_eq_true rfl) rfl ?_
  intro K X
  have X : Fx l G K cX1_count 1 RX1 ((some .int)) (rmR 0 0) := X
  obtain ⟨p, Ln, Fs, hp, hhl, hh, hq, hln, hrw, hgs, hR⟩ := hH
  refine A_aload_n (q := 1) X dX1_count_0 rfl rfl ?_
  refine A_getf (q := 4) X fX1_20 dX1_count_1 (by omega) hh rfl rfl ?_
  exact A_ireturn X dX1_count_4 ⟨rfl, rfl⟩
set_option maxRecDepth 100000 in
set_option maxHeartbeats 4000000 in
theorem c_X1_forgetAll {l : Launch} {G : Gm} {c : HP} {hs : List (List Int)} (hG : injG G) (hN : G.2.1 = 72) (hH : Hs G c hs) : AMet l G yX1_forgetAll cX1_forgetAll 1 (none) (rmR 0 0) [.ref (G.1 33)] c (Qv (fun c' => Hs G c' [] ∧ (∀ k, k < 33 ∨ (35 < k ∧ k < 41) ∨ 54 < k → c' k = c k))) := by
  refine AMet.of (vl := [some (.ref (G.1 33))]) (by decide) hG (Nat.le_of_ble_eq_true rfl) rfl ?_
  intro K X
  have X : Fx l G K cX1_forgetAll 1 RX1 (none) (rmR 0 0) := X
  obtain ⟨p, Ln, Fs, hp, hhl, hh, hq, hln, hrw, hgs, hR⟩ := hH
  refine A_aload_n (q := 1) X dX1_forgetAll_0 rfl rfl ?_
  refine A_iconst (q := 2) X dX1_forgetAll_1 rfl ?_
  refine A_putf (q := 5) X pX1_20 dX1_forgetAll_2 (by omega) hh (Nat.le_of_ble_eq_true rfl) rfl rfl rfl ?_
  exact A_return X dX1_forgetAll_5 ⟨⟨p, Ln, Fs, hp, by decide, lk_eq, (lk_ne (by omega) hq), (lk_ne (by omega) hln), fun i hi => lk_ne (by omega) (hrw i hi), (fun q hq => absurd hq List.not_mem_nil), fun k hk => absurd hk (Nat.not_lt_zero k)⟩, (fun k n0 => (lk_ne (by omega) rfl))⟩
set_option maxRecDepth 100000 in
set_option maxHeartbeats 4000000 in
theorem lp_X1_remember {l : Launch} {G : Gm} {K : Cx} {c0 : HP} {hs : List (List Int)} {p t ta : Nat} {Ln : Nat → Int} {Fs : Nat → Nat → Int} {T : List Int × Int} (X : Fx l G K cX1_remember 4 RX1 (none) (rmR 1 21)) (hG : injG G) (hN : G.2.1 = 72) (hp : p < 14) (hhl : hs.length ≤ 14) (hh0 : c0 33 = .inr (1, [.ref (G.1 34), .ref (G.1 35), .int (zI (hs.length : Nat)), .int (zI (p : Nat))])) (hq0 : c0 34 = aQ G 14 (fun i => 41 + i)) (hln0 : c0 35 = aI G 14 Ln) (hrw0 : ∀ i, i < 14 → c0 (41 + i) = aI G 200 (Fs i)) (hgs : ∀ q ∈ hs, Gd q) (hR : HsR hs p Ln Fs) (hT0 : Tm G c0 t ta T) (hgd : Gd T.1) (x1 : t < 11) (x2 : ta < 11) : ∀ (n : Nat) (i : Nat) (F : Nat → Int) (c : HP), T.1.length - i < n → i ≤ T.1.length → c (41 + p) = aI G 200 F → (∀ j, j < i → F j = T.1.getD j 0) → (∀ k, k ≠ 41 + p → c k = c0 k) → AW G K (Qv (fun c' => Hs G c' ((T.1 :: hs).take 14) ∧ (∀ k, k < 33 ∨ (35 < k ∧ k < 41) ∨ 54 < k → c' k = c0 k))) 34 (mkL [some (.ref (G.1 33)), some (.ref (G.1 t)), some (.int (zI ((T.1.length : Nat) : Int))), some (.int (zI ((i : Nat) : Int)))]) [] c := by
  intro n
  induction n with
  | zero => intro i F c hmz; exact absurd hmz (Nat.not_lt_zero _)
  | succ n ih =>
    intro i F c hmz hi hF hFi hf0
    have hh := (hf0 33 (by omega)).trans hh0
    have hq := (hf0 34 (by omega)).trans hq0
    have hln := (hf0 35 (by omega)).trans hln0
    have hT := hT0.keep (hf0 t (by omega)) (hf0 ta (by omega))
    have hlen := hT.len
    refine A_iload_n (q := 35) X dX1_remember_34 rfl rfl ?_
    refine A_iload_n (q := 36) X dX1_remember_35 rfl rfl ?_
    refine A_icmp_ge (q := 39) (t := 61) X dX1_remember_36 (by omega) (by omega) rfl rfl (fun hb36 => ?_) (fun hb36 => ?_)
    · refine A_aload_n (q := 62) X dX1_remember_61 rfl rfl ?_
      refine A_getf (q := 65) X fX1_16 dX1_remember_62 (by omega) hh rfl rfl ?_
      refine A_aload_n (q := 66) X dX1_remember_65 rfl rfl ?_
      refine A_getf (q := 69) X fX1_24 dX1_remember_66 (by omega) hh rfl rfl ?_
      refine A_iload_n (q := 70) X dX1_remember_69 rfl rfl ?_
      refine A_iast (q := 71) (h := 35) (p) X dX1_remember_70 (by omega) hln (by omega) (by omega) (by decide) rfl ?_
      refine A_aload_n (q := 72) X dX1_remember_71 rfl rfl ?_
      refine A_aload_n (q := 73) X dX1_remember_72 rfl rfl ?_
      refine A_getf (q := 76) X fX1_24 dX1_remember_73 (by omega) (lk_ne (by omega) hh) rfl rfl ?_
      refine A_iconst (q := 77) X dX1_remember_76 rfl ?_
      refine A_iadd (q := 78) X dX1_remember_77 rfl ?_
      refine A_bipush (q := 80) X dX1_remember_78 (by decide) rfl ?_
      refine A_irem (q := 81) X dX1_remember_80 (by omega) (by omega) (by decide) (by decide) rfl ?_
      refine A_putf (q := 84) X pX1_24 dX1_remember_81 (by omega) (lk_ne (by omega) hh) (Nat.le_of_ble_eq_true rfl) rfl rfl rfl ?_
      refine A_aload_n (q := 85) X dX1_remember_84 rfl rfl ?_
      refine A_aload_n (q := 86) X dX1_remember_85 rfl rfl ?_
      refine A_getf (q := 89) X fX1_20 dX1_remember_86 (by omega) lk_eq rfl rfl ?_
      refine A_iconst (q := 90) X dX1_remember_89 rfl ?_
      refine A_iadd (q := 91) X dX1_remember_90 rfl ?_
      refine A_bipush (q := 93) X dX1_remember_91 (by decide) rfl ?_
      refine A_mmin (q := 96) X dX1_remember_93 kX1_33 q_min1 q_math1 q_min2 (by omega) (by decide) (by decide) (Nat.le_of_ble_eq_true rfl) rfl ?_
      refine A_putf (q := 99) X pX1_20 dX1_remember_96 (by omega) lk_eq (Nat.le_of_ble_eq_true rfl) rfl rfl rfl ?_
      have e1 : (((p : Nat) : Int) + 1) % 14 = (((p + 1) % 14 : Nat) : Int) := by omega
      have e2 : min (((hs.length : Nat) : Int) + 1) 14 = ((((T.1 :: hs).take 14).length : Nat) : Int) := by rw [List.length_take, List.length_cons]; omega
      refine A_return X dX1_remember_99 ⟨⟨(p + 1) % 14, va_up Ln p (T.1.length : Nat), va_up Fs p F, by omega, by rw [List.length_take]; omega, lk_eq.trans ?_, (lk_ne (by omega) (lk_ne (by omega) (lk_ne (by omega) hq))), (lk_ne (by omega) (lk_ne (by omega) lk_eq)), fun i hi => ?_, ?_, HsR_push hp hhl hR (fun j hj => hFi j (by omega))⟩, fun k n0 => lk_ne (by omega) (lk_ne (by omega) (lk_ne (by omega) (hf0 k (by omega))))⟩
      · show Sum.inr (1, [Value.ref (G.1 34), .ref (G.1 35), .int (zI (min (((hs.length : Nat) : Int) + 1) 14)), .int (zI ((((p : Nat) : Int) + 1) % 14))]) = _
        rw [e1, e2]
      · refine lk_ne (by omega) (lk_ne (by omega) (lk_ne (by omega) ?_))
        by_cases e : i = p
        · subst e; rw [lk_eq]; exact hF
        · rw [lk_ne e rfl]; exact (hf0 (41 + i) (by omega)).trans (hrw0 i hi)
      · intro y hy
        rcases List.mem_cons.mp (List.mem_of_mem_take hy) with q | q
        · rw [q]; exact hgd
        · exact hgs y q
    · refine A_aload_n (q := 40) X dX1_remember_39 rfl rfl ?_
      refine A_getf (q := 43) X fX1_11 dX1_remember_40 (by omega) hh rfl rfl ?_
      refine A_aload_n (q := 44) X dX1_remember_43 rfl rfl ?_
      refine A_getf (q := 47) X fX1_24 dX1_remember_44 (by omega) hh rfl rfl ?_
      refine A_aald (q := 48) (p) X dX1_remember_47 (by omega) hq (by omega) (by omega) (by decide) rfl ?_
      show AW G K _ _ _ (.ref (G.1 (41 + p)) :: _) _
      refine A_iload_n (q := 49) X dX1_remember_48 rfl rfl ?_
      refine A_aload_n (q := 50) X dX1_remember_49 rfl rfl ?_
      refine A_iload_n (q := 51) X dX1_remember_50 rfl rfl ?_
      refine A_V1i (q := 54) X (c_X6_token hG hT (by omega)) mX6_token kX1_39 dX1_remember_51 hT.lt hT.cell rfl (by decide) (Nat.le_of_ble_eq_true rfl) rfl (fun vq_3 cq_2 hq_1 => ?_)
      obtain ⟨rfl, hq_1⟩ := hq_1
      obtain rfl := hq_1.symm
      refine A_iast (q := 55) (h := (41 + p)) (i) X dX1_remember_54 (by omega) hF (by omega) (by omega) (by decide) rfl ?_
      refine A_iinc (q := 58) X dX1_remember_55 rfl (by decide) (okP_s rfl rfl) rfl ?_
      refine A_goto (q := 34) X dX1_remember_58 rfl ?_
      refine AW.loc (sS rfl (sS rfl (sS rfl (sZ rfl (by omega) sE)))) (ih (i + 1) _ _ (by omega) (by omega) lk_eq (fun j hj => ?_) (fun k n0 => lk_ne n0 (hf0 k n0)))
      by_cases e : j = i
      · subst e; rw [lk_eq]; exact tokA_in (by omega)
      · rw [lk_ne e rfl]; exact hFi j (by omega)
set_option maxRecDepth 100000 in
set_option maxHeartbeats 4000000 in
theorem c_X1_remember {l : Launch} {G : Gm} {c : HP} {hs : List (List Int)} {t ta : Nat} {T : List Int × Int} (hG : injG G) (hN : G.2.1 = 72) (hH : Hs G c hs) (hT : Tm G c t ta T) (hgd : Gd T.1) (x1 : t < 11) (x2 : ta < 11) : AMet l G yX1_remember cX1_remember 4 (none) (rmR 1 21) [.ref (G.1 33), .ref (G.1 t)] c (Qv (fun c' => Hs G c' ((T.1 :: hs).take 14) ∧ (∀ k, k < 33 ∨ (35 < k ∧ k < 41) ∨ 54 < k → c' k = c k))) := by
  refine AMet.of (vl := [some (.ref (G.1 33)), some (.ref (G.1 t))]) (by decide) hG (Nat.le_of_ble_eq_true rfl) rfl ?_
  intro K X
  have X : Fx l G K cX1_remember 4 RX1 (none) (rmR 1 21) := X
  obtain ⟨p, Ln, Fs, hp, hhl, hh, hq, hln, hrw, hgs, hR⟩ := hH
  have hlen := hT.len
  refine A_aload_n (q := 1) X dX1_remember_0 rfl rfl ?_
  refine A_getf (q := 4) X fX1_24 dX1_remember_1 (by omega) hh rfl rfl ?_
  refine A_if_lt (q := 7) (t := 16) X dX1_remember_4 (by omega) rfl rfl (fun hb4 => ?_) (fun hb4 => ?_)
  · exfalso
    omega
  · refine A_aload_n (q := 8) X dX1_remember_7 rfl rfl ?_
    refine A_getf (q := 11) X fX1_24 dX1_remember_8 (by omega) hh rfl rfl ?_
    refine A_bipush (q := 13) X dX1_remember_11 (by decide) rfl ?_
    refine A_icmp_lt (q := 16) (t := 21) X dX1_remember_13 (by omega) (by decide) rfl rfl (fun hb13 => ?_) (fun hb13 => ?_)
    · refine A_aload_n (q := 22) X dX1_remember_21 rfl rfl ?_
      refine A_V0i (q := 25) X (c_X6_length hG hT) mX6_length kX1_27 dX1_remember_22 hT.lt hT.cell rfl (by decide) (Nat.le_of_ble_eq_true rfl) rfl (fun vq_3 cq_2 hq_1 => ?_)
      obtain ⟨rfl, hq_1⟩ := hq_1
      obtain rfl := hq_1.symm
      refine A_sipush (q := 28) X dX1_remember_25 (by decide) rfl ?_
      refine A_mmin (q := 31) X dX1_remember_28 kX1_33 q_min1 q_math1 q_min2 (by omega) (by decide) (by decide) (Nat.le_of_ble_eq_true rfl) rfl ?_
      rw [show min ((T.1.length : Nat) : Int) 200 = ((T.1.length : Nat) : Int) by omega]
      refine A_istore_n (q := 32) X dX1_remember_31 (by decide) (okP_s rfl rfl) rfl ?_
      refine A_iconst (q := 33) X dX1_remember_32 rfl ?_
      refine A_istore_n (q := 34) X dX1_remember_33 (by decide) (okP_s rfl rfl) rfl ?_
      exact AW.loc (sS rfl (sS rfl (sS rfl (sZ rfl (by omega) sE)))) (lp_X1_remember X hG hN hp hhl hh hq hln hrw hgs hR hT hgd x1 x2 _ 0 (Fs p) c (Nat.lt_succ_self _) (Nat.zero_le _) (hrw p hp) (fun j hj => absurd hj (Nat.not_lt_zero j)) (fun _ _ => rfl))
    · exfalso
      omega
set_option maxRecDepth 100000 in
set_option maxHeartbeats 4000000 in
theorem lp_X1_takeBack {l : Launch} {G : Gm} {K : Cx} {c0 c1 : HP} {hs : List (List Int)} {p t ta : Nat} {Ln : Nat → Int} {Fs : Nat → Nat → Int} {l0 : List Int} (X : Fx l G K cX1_takeBack 4 RX1 ((some .boolean)) (rmR 1 21)) (hG : injG G) (hN : G.2.1 = 72) (hp : p < 14) (hH1 : Hs G c1 hs) (hh1 : c1 33 = .inr (1, [.ref (G.1 34), .ref (G.1 35), .int (zI (hs.length : Nat)), .int (zI (p : Nat))])) (hq1 : c1 34 = aQ G 14 (fun i => 41 + i)) (hrw1 : c1 (41 + p) = aI G 200 (Fs p)) (hFl : ∀ j, j < l0.length → Fs p j = l0.getD j 0) (hgd : Gd l0) (hc1 : ∀ k, k < 33 ∨ (35 < k ∧ k < 41) ∨ 54 < k → k ≠ t → k ≠ ta → c1 k = c0 k) (x1 : t < 11) (x2 : ta < 11) : ∀ (n : Nat) (i : Nat) (T : List Int × Int) (c : HP), l0.length - i < n → i ≤ l0.length → Tm G c t ta T → T = (l0.take i, 0) → (∀ k, k ≠ t → k ≠ ta → c k = c1 k) → AW G K (Qi (fun v c' => v = zI 1 ∧ Tm G c' t ta (l0, 0) ∧ Hs G c' hs ∧ (∀ k, k < 33 ∨ (35 < k ∧ k < 41) ∨ 54 < k → k ≠ t → k ≠ ta → c' k = c0 k))) 72 (mkL [some (.ref (G.1 33)), some (.ref (G.1 t)), some (.int (zI ((l0.length : Nat) : Int))), some (.int (zI ((i : Nat) : Int)))]) [] c := by
  intro n
  induction n with
  | zero => intro i T c hmz; exact absurd hmz (Nat.not_lt_zero _)
  | succ n ih =>
    intro i T c hmz hi hT hTe hf0
    have hh := (hf0 33 (by omega) (by omega)).trans hh1
    have hq := (hf0 34 (by omega) (by omega)).trans hq1
    have hrw := (hf0 (41 + p) (by omega) (by omega)).trans hrw1
    have hlen := hgd.1
    refine A_iload_n (q := 73) X dX1_takeBack_72 rfl rfl ?_
    refine A_iload_n (q := 74) X dX1_takeBack_73 rfl rfl ?_
    refine A_icmp_ge (q := 77) (t := 98) X dX1_takeBack_74 (by omega) (by omega) rfl rfl (fun hb74 => ?_) (fun hb74 => ?_)
    · refine A_iconst (q := 99) X dX1_takeBack_98 rfl ?_
      exact A_zreturn X dX1_takeBack_99 (by decide) ⟨rfl, by rw [hTe, List.take_of_length_le (by omega)] at hT; exact hT, hH1.keep (fun k hk => hf0 k (by omega) (by omega)), fun k n0 n1 n2 => (hf0 k n1 n2).trans (hc1 k n0 n1 n2)⟩
    · refine A_aload_n (q := 78) X dX1_takeBack_77 rfl rfl ?_
      refine A_aload_n (q := 79) X dX1_takeBack_78 rfl rfl ?_
      refine A_getf (q := 82) X fX1_11 dX1_takeBack_79 (by omega) hh rfl rfl ?_
      refine A_aload_n (q := 83) X dX1_takeBack_82 rfl rfl ?_
      refine A_getf (q := 86) X fX1_24 dX1_takeBack_83 (by omega) hh rfl rfl ?_
      refine A_aald (q := 87) (p) X dX1_takeBack_86 (by omega) hq (by omega) (by omega) (by decide) rfl ?_
      show AW G K _ _ _ (.ref (G.1 (41 + p)) :: _) _
      refine A_iload_n (q := 88) X dX1_takeBack_87 rfl rfl ?_
      refine A_iald (q := 89) (h := (41 + p)) (i) X dX1_takeBack_88 (by omega) hrw (by omega) (by omega) (by decide) rfl ?_
      refine A_V1v (q := 92) X (c_X6_add (t := ((Fs p) (i))) hG hT) mX6_add kX1_46 dX1_takeBack_89 hT.lt hT.cell rfl (by decide) (Nat.le_of_ble_eq_true rfl) rfl (fun cq_2 hq_1 => ?_)
      obtain ⟨hT_3, hf_4⟩ := hq_1
      refine A_iinc (q := 95) X dX1_takeBack_92 rfl (by decide) (okP_s rfl rfl) rfl ?_
      refine A_goto (q := 72) X dX1_takeBack_95 rfl ?_
      exact AW.loc (sS rfl (sS rfl (sS rfl (sZ rfl (by omega) sE)))) (ih (i + 1) _ _ (by omega) (by omega) hT_3 (by rw [hTe, hFl i (by omega)]; unfold tAdd; rw [if_pos (by show (l0.take i).length < 200; rw [List.length_take]; omega), take_succ_getD (by omega)]) (fun k n0 n1 => (hf_4 k n0 n1).trans (hf0 k n0 n1)))
set_option maxRecDepth 100000 in
set_option maxHeartbeats 4000000 in
theorem c_X1_takeBack1 {l : Launch} {G : Gm} {c : HP} {hs : List (List Int)} {t ta : Nat} {T : List Int × Int} {l0 : List Int} (hG : injG G) (hN : G.2.1 = 72) (hH : Hs G c (l0 :: hs)) (hT : Tm G c t ta T) (x1 : t < 11) (x2 : ta < 11) : AMet l G yX1_takeBack cX1_takeBack 4 ((some .boolean)) (rmR 1 21) [.ref (G.1 33), .ref (G.1 t)] c (Qi (fun v c' => v = zI 1 ∧ Tm G c' t ta (l0, 0) ∧ Hs G c' hs ∧ (∀ k, k < 33 ∨ (35 < k ∧ k < 41) ∨ 54 < k → k ≠ t → k ≠ ta → c' k = c k))) := by
  refine AMet.of (vl := [some (.ref (G.1 33)), some (.ref (G.1 t))]) (by decide) hG (Nat.le_of_ble_eq_true rfl) rfl ?_
  intro K X
  have X : Fx l G K cX1_takeBack 4 RX1 ((some .boolean)) (rmR 1 21) := X
  obtain ⟨p, Ln, Fs, hp, hhl, hh, hq, hln, hrw, hgs, hR⟩ := hH
  have hlen := hT.len
  have hll := hhl
  rw [List.length_cons] at hll
  have hl0 := (hgs l0 List.mem_cons_self).1
  have hcl : (((l0 :: hs).length : Nat) : Int) = ((hs.length : Nat) : Int) + 1 := by rw [List.length_cons]; omega
  refine A_aload_n (q := 1) X dX1_takeBack_0 rfl rfl ?_
  refine A_getf (q := 4) X fX1_20 dX1_takeBack_1 (by omega) hh rfl rfl ?_
  refine A_if_gt (q := 7) (t := 9) X dX1_takeBack_4 (by omega) rfl rfl (fun hb4 => ?_) (fun hb4 => ?_)
  · refine A_aload_n (q := 10) X dX1_takeBack_9 rfl rfl ?_
    refine A_aload_n (q := 11) X dX1_takeBack_10 rfl rfl ?_
    refine A_getf (q := 14) X fX1_24 dX1_takeBack_11 (by omega) hh rfl rfl ?_
    refine A_if_le (q := 17) (t := 35) X dX1_takeBack_14 (by omega) rfl rfl (fun hb14 => ?_) (fun hb14 => ?_)
    · refine A_bipush (q := 37) X dX1_takeBack_35 (by decide) rfl ?_
      refine A_putf (q := 40) X pX1_24 dX1_takeBack_37 (by omega) hh (Nat.le_of_ble_eq_true rfl) rfl rfl rfl ?_
      refine A_aload_n (q := 41) X dX1_takeBack_40 rfl rfl ?_
      refine A_dup (q := 42) X dX1_takeBack_41 rfl rfl ?_
      refine A_getf (q := 45) X fX1_20 dX1_takeBack_42 (by omega) lk_eq rfl rfl ?_
      refine A_iconst (q := 46) X dX1_takeBack_45 rfl ?_
      refine A_isub (q := 47) X dX1_takeBack_46 rfl ?_
      refine A_putf (q := 50) X pX1_20 dX1_takeBack_47 (by omega) lk_eq (Nat.le_of_ble_eq_true rfl) rfl rfl rfl ?_
      refine A_aload_n (q := 51) X dX1_takeBack_50 rfl rfl ?_
      refine A_V0v (q := 54) X (c_X6_clear hG (hT.keep (lk_ne (by omega) (lk_ne (by omega) rfl)) (lk_ne (by omega) (lk_ne (by omega) rfl)))) mX6_clear kX1_43 dX1_takeBack_51 hT.lt (hT.keep (lk_ne (by omega) (lk_ne (by omega) rfl)) (lk_ne (by omega) (lk_ne (by omega) rfl))).cell rfl (by decide) (Nat.le_of_ble_eq_true rfl) rfl (fun cq_2 hq_1 => ?_)
      obtain ⟨hT_3, hf_4⟩ := hq_1
      refine A_aload_n (q := 55) X dX1_takeBack_54 rfl rfl ?_
      refine A_getf (q := 58) X fX1_16 dX1_takeBack_55 (by omega) ((hf_4 _ (by omega) (by omega)).trans lk_eq) rfl rfl ?_
      refine A_aload_n (q := 59) X dX1_takeBack_58 rfl rfl ?_
      refine A_getf (q := 62) X fX1_24 dX1_takeBack_59 (by omega) ((hf_4 _ (by omega) (by omega)).trans lk_eq) rfl rfl ?_
      have eL := (hR 0 (by rw [List.length_cons]; omega)).1
      rw [show (p + 13 - 0) % 14 = (p + 13) % 14 by omega] at eL
      have eL : Ln ((p + 13) % 14) = ((l0.length : Nat) : Int) := eL
      rw [show 13 = (((p + 13) % 14 : Nat) : Int) by omega]
      refine A_iald (q := 63) (h := 35) (((p + 13) % 14)) X dX1_takeBack_62 (by omega) ((hf_4 _ (by omega) (by omega)).trans (lk_ne (by omega) (lk_ne (by omega) hln))) (by omega) (by omega) (by decide) rfl ?_
      rw [eL]
      refine A_sipush (q := 66) X dX1_takeBack_63 (by decide) rfl ?_
      refine A_mmin (q := 69) X dX1_takeBack_66 kX1_33 q_min1 q_math1 q_min2 (by omega) (by decide) (by decide) (Nat.le_of_ble_eq_true rfl) rfl ?_
      rw [show min ((l0.length : Nat) : Int) 200 = ((l0.length : Nat) : Int) by omega]
      refine A_istore_n (q := 70) X dX1_takeBack_69 (by decide) (okP_s rfl rfl) rfl ?_
      refine A_iconst (q := 71) X dX1_takeBack_70 rfl ?_
      refine A_istore_n (q := 72) X dX1_takeBack_71 (by decide) (okP_s rfl rfl) rfl ?_
      have q1 : ((((l0 :: hs).length : Nat) : Int) - 1) = ((hs.length : Nat) : Int) := by rw [List.length_cons]; omega
      have q2 : 13 = (((p + 13) % 14 : Nat) : Int) := by omega
      have hh9 := ((hf_4 _ (by omega) (by omega)).trans lk_eq).trans (show _ = (Sum.inr (1, [Value.ref (G.1 34), .ref (G.1 35), .int (zI ((hs.length : Nat) : Int)), .int (zI (((p + 13) % 14 : Nat) : Int))]) : va_E) from by show Sum.inr (1, [Value.ref (G.1 34), .ref (G.1 35), .int (zI ((((l0 :: hs).length : Nat) : Int) - 1)), .int (zI 13)]) = _; rw [q1, q2])
      have hHt : Hs G _ hs := ⟨(p + 13) % 14, Ln, Fs, by omega, by rw [List.length_cons] at hhl; omega, hh9, ((hf_4 _ (by omega) (by omega)).trans (lk_ne (by omega) (lk_ne (by omega) hq))), ((hf_4 _ (by omega) (by omega)).trans (lk_ne (by omega) (lk_ne (by omega) hln))), fun i hi => ((hf_4 _ (by omega) (by omega)).trans (lk_ne (by omega) (lk_ne (by omega) (hrw i hi)))), fun q hq => hgs q (List.mem_cons_of_mem _ hq), HsR_pop hp hhl hR⟩
      exact AW.loc (sS rfl (sS rfl (sS rfl (sZ rfl (by omega) sE)))) (lp_X1_takeBack (p := (p + 13) % 14) (Ln := Ln) (Fs := Fs) X hG hN (by omega) hHt hh9 ((hf_4 _ (by omega) (by omega)).trans (lk_ne (by omega) (lk_ne (by omega) hq))) ((hf_4 _ (by omega) (by omega)).trans (lk_ne (by omega) (lk_ne (by omega) (hrw ((p + 13) % 14) (by omega))))) (fun j hj => by have := (hR 0 (by rw [List.length_cons]; omega)).2 j hj; rw [show (p + 13 - 0) % 14 = (p + 13) % 14 by omega] at this; exact this) (hgs l0 List.mem_cons_self) (fun k n0 n1 n2 => ((hf_4 k (by omega) (by omega)).trans (lk_ne (by omega) (lk_ne (by omega) rfl)))) x1 x2 _ 0 _ _ (Nat.lt_succ_self _) (Nat.zero_le _) hT_3 (by rw [List.take_zero]) (fun _ _ _ => rfl))
    · refine A_aload_n (q := 18) X dX1_takeBack_17 rfl rfl ?_
      refine A_getf (q := 21) X fX1_24 dX1_takeBack_18 (by omega) hh rfl rfl ?_
      refine A_bipush (q := 23) X dX1_takeBack_21 (by decide) rfl ?_
      refine A_icmp_ge (q := 26) (t := 35) X dX1_takeBack_23 (by omega) (by decide) rfl rfl (fun hb23 => ?_) (fun hb23 => ?_)
      · exfalso
        omega
      · refine A_aload_n (q := 27) X dX1_takeBack_26 rfl rfl ?_
        refine A_getf (q := 30) X fX1_24 dX1_takeBack_27 (by omega) hh rfl rfl ?_
        refine A_iconst (q := 31) X dX1_takeBack_30 rfl ?_
        refine A_isub (q := 32) X dX1_takeBack_31 rfl ?_
        refine A_goto (q := 37) X dX1_takeBack_32 rfl ?_
        refine A_putf (q := 40) X pX1_24 dX1_takeBack_37 (by omega) hh (Nat.le_of_ble_eq_true rfl) rfl rfl rfl ?_
        refine A_aload_n (q := 41) X dX1_takeBack_40 rfl rfl ?_
        refine A_dup (q := 42) X dX1_takeBack_41 rfl rfl ?_
        refine A_getf (q := 45) X fX1_20 dX1_takeBack_42 (by omega) lk_eq rfl rfl ?_
        refine A_iconst (q := 46) X dX1_takeBack_45 rfl ?_
        refine A_isub (q := 47) X dX1_takeBack_46 rfl ?_
        refine A_putf (q := 50) X pX1_20 dX1_takeBack_47 (by omega) lk_eq (Nat.le_of_ble_eq_true rfl) rfl rfl rfl ?_
        refine A_aload_n (q := 51) X dX1_takeBack_50 rfl rfl ?_
        refine A_V0v (q := 54) X (c_X6_clear hG (hT.keep (lk_ne (by omega) (lk_ne (by omega) rfl)) (lk_ne (by omega) (lk_ne (by omega) rfl)))) mX6_clear kX1_43 dX1_takeBack_51 hT.lt (hT.keep (lk_ne (by omega) (lk_ne (by omega) rfl)) (lk_ne (by omega) (lk_ne (by omega) rfl))).cell rfl (by decide) (Nat.le_of_ble_eq_true rfl) rfl (fun cq_6 hq_5 => ?_)
        obtain ⟨hT_7, hf_8⟩ := hq_5
        refine A_aload_n (q := 55) X dX1_takeBack_54 rfl rfl ?_
        refine A_getf (q := 58) X fX1_16 dX1_takeBack_55 (by omega) ((hf_8 _ (by omega) (by omega)).trans lk_eq) rfl rfl ?_
        refine A_aload_n (q := 59) X dX1_takeBack_58 rfl rfl ?_
        refine A_getf (q := 62) X fX1_24 dX1_takeBack_59 (by omega) ((hf_8 _ (by omega) (by omega)).trans lk_eq) rfl rfl ?_
        have eL := (hR 0 (by rw [List.length_cons]; omega)).1
        rw [show (p + 13 - 0) % 14 = (p + 13) % 14 by omega] at eL
        have eL : Ln ((p + 13) % 14) = ((l0.length : Nat) : Int) := eL
        rw [show (((p : Nat) : Int) - 1) = (((p + 13) % 14 : Nat) : Int) by omega]
        refine A_iald (q := 63) (h := 35) (((p + 13) % 14)) X dX1_takeBack_62 (by omega) ((hf_8 _ (by omega) (by omega)).trans (lk_ne (by omega) (lk_ne (by omega) hln))) (by omega) (by omega) (by decide) rfl ?_
        rw [eL]
        refine A_sipush (q := 66) X dX1_takeBack_63 (by decide) rfl ?_
        refine A_mmin (q := 69) X dX1_takeBack_66 kX1_33 q_min1 q_math1 q_min2 (by omega) (by decide) (by decide) (Nat.le_of_ble_eq_true rfl) rfl ?_
        rw [show min ((l0.length : Nat) : Int) 200 = ((l0.length : Nat) : Int) by omega]
        refine A_istore_n (q := 70) X dX1_takeBack_69 (by decide) (okP_s rfl rfl) rfl ?_
        refine A_iconst (q := 71) X dX1_takeBack_70 rfl ?_
        refine A_istore_n (q := 72) X dX1_takeBack_71 (by decide) (okP_s rfl rfl) rfl ?_
        have q1 : ((((l0 :: hs).length : Nat) : Int) - 1) = ((hs.length : Nat) : Int) := by rw [List.length_cons]; omega
        have q2 : (((p : Nat) : Int) - 1) = (((p + 13) % 14 : Nat) : Int) := by omega
        have hh9 := ((hf_8 _ (by omega) (by omega)).trans lk_eq).trans (show _ = (Sum.inr (1, [Value.ref (G.1 34), .ref (G.1 35), .int (zI ((hs.length : Nat) : Int)), .int (zI (((p + 13) % 14 : Nat) : Int))]) : va_E) from by show Sum.inr (1, [Value.ref (G.1 34), .ref (G.1 35), .int (zI ((((l0 :: hs).length : Nat) : Int) - 1)), .int (zI (((p : Nat) : Int) - 1))]) = _; rw [q1, q2])
        have hHt : Hs G _ hs := ⟨(p + 13) % 14, Ln, Fs, by omega, by rw [List.length_cons] at hhl; omega, hh9, ((hf_8 _ (by omega) (by omega)).trans (lk_ne (by omega) (lk_ne (by omega) hq))), ((hf_8 _ (by omega) (by omega)).trans (lk_ne (by omega) (lk_ne (by omega) hln))), fun i hi => ((hf_8 _ (by omega) (by omega)).trans (lk_ne (by omega) (lk_ne (by omega) (hrw i hi)))), fun q hq => hgs q (List.mem_cons_of_mem _ hq), HsR_pop hp hhl hR⟩
        exact AW.loc (sS rfl (sS rfl (sS rfl (sZ rfl (by omega) sE)))) (lp_X1_takeBack (p := (p + 13) % 14) (Ln := Ln) (Fs := Fs) X hG hN (by omega) hHt hh9 ((hf_8 _ (by omega) (by omega)).trans (lk_ne (by omega) (lk_ne (by omega) hq))) ((hf_8 _ (by omega) (by omega)).trans (lk_ne (by omega) (lk_ne (by omega) (hrw ((p + 13) % 14) (by omega))))) (fun j hj => by have := (hR 0 (by rw [List.length_cons]; omega)).2 j hj; rw [show (p + 13 - 0) % 14 = (p + 13) % 14 by omega] at this; exact this) (hgs l0 List.mem_cons_self) (fun k n0 n1 n2 => ((hf_8 k (by omega) (by omega)).trans (lk_ne (by omega) (lk_ne (by omega) rfl)))) x1 x2 _ 0 _ _ (Nat.lt_succ_self _) (Nat.zero_le _) hT_7 (by rw [List.take_zero]) (fun _ _ _ => rfl))
  · exfalso
    omega
set_option maxRecDepth 100000 in
set_option maxHeartbeats 4000000 in
theorem c_X1_takeBack0 {l : Launch} {G : Gm} {c : HP} {t : Nat} (hG : injG G) (hN : G.2.1 = 72) (hH : Hs G c []) : AMet l G yX1_takeBack cX1_takeBack 4 ((some .boolean)) (rmR 1 21) [.ref (G.1 33), .ref (G.1 t)] c (Qi (fun v c' => v = zI 0 ∧ c' = c)) := by
  refine AMet.of (vl := [some (.ref (G.1 33)), some (.ref (G.1 t))]) (by decide) hG (Nat.le_of_ble_eq_true rfl) rfl ?_
  intro K X
  have X : Fx l G K cX1_takeBack 4 RX1 ((some .boolean)) (rmR 1 21) := X
  obtain ⟨p, Ln, Fs, hp, hhl, hh, hq, hln, hrw, hgs, hR⟩ := hH
  refine A_aload_n (q := 1) X dX1_takeBack_0 rfl rfl ?_
  refine A_getf (q := 4) X fX1_20 dX1_takeBack_1 (by omega) hh rfl rfl ?_
  refine A_if_gt (q := 7) (t := 9) X dX1_takeBack_4 (by decide) rfl rfl (fun hb4 => ?_) (fun hb4 => ?_)
  · exact absurd hb4 (by decide)
  · refine A_iconst (q := 8) X dX1_takeBack_7 rfl ?_
    exact A_zreturn X dX1_takeBack_8 (by decide) ⟨rfl, rfl⟩
