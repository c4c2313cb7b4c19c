/-! THE MODEL, seventh: normal forms, rows put together, slots -/
theorem fnd_cnt {P : Nat → Prop} [DecidablePred P] {n : Nat} : fnd P n = -9 ↔ cntP P n = 0 := by
  rw [cntP_zero]
  rcases fnd_cases P n with ⟨h1, h2⟩ | ⟨k, h1, h2, h3, -⟩
  · exact ⟨fun _ => h2, fun _ => h1⟩
  · exact ⟨fun h => by omega, fun h => absurd h3 (h k h1)⟩
set_option maxRecDepth 100000 in
set_option maxHeartbeats 4000000 in
theorem c_X9_normalize {l : Launch} {G : Gm} {c : HP} {a : Nat} {t : List Int} {th ts rmb obn tw pk : Int} {sd : Int64} (hG : injG G) (hN : G.2.1 = 72) (h55 : c 55 = ob9 G th ts rmb obn sd tw pk) (an : a ≠ 60 ∧ a ≠ 66 ∧ a ≠ 67 ∧ a ≠ 68 ∧ a ≠ 55) (hT : Mt G c a t) (hgd : Gd t) (hO : Mr G c 60) (hSc : Sc G c) : AMet l G yX9_normalize cX9_normalize 2 ((some .boolean)) (rmR 5 117) [.ref (G.1 55), .ref (G.1 a)] c (Qi (fun v c' => v = zI (if isN t then 1 else 0) ∧ Mt G c' a (nrm t) ∧ Mr G c' 60 ∧ Sc G c' ∧ (∀ k, k ≠ a → k ≠ 60 → k ≠ 66 → k ≠ 67 → k ≠ 68 → c' k = c k))) := by
  refine AMet.of (vl := [some (.ref (G.1 55)), some (.ref (G.1 a))]) (by decide) hG (Nat.le_of_ble_eq_true rfl) rfl ?_
  intro K X
  have X : Fx l G K cX9_normalize 2 RX9 ((some .boolean)) (rmR 5 117) := X
  refine A_aload_n (q := 1) X dX9_normalize_0 rfl rfl ?_
  refine A_aload_n (q := 2) X dX9_normalize_1 rfl rfl ?_
  refine A_iconst (q := 3) X dX9_normalize_2 rfl ?_
  refine A_sipush (q := 6) X dX9_normalize_3 (by decide) rfl ?_
  refine A_V3i (q := 9) X (c_X9_runOn (n0 := 200) hG hN h55 an (by decide) (by decide) hT hgd hO hSc) mX9_runOn kX9_104 dX9_normalize_6 (by omega) h55 rfl (by decide) (Nat.le_of_ble_eq_true rfl) rfl (fun vq_3 cq_2 hq_1 => ?_)
  obtain ⟨rfl, hT9, hO9, hSc9, hf9⟩ := hq_1
  have hT9 : Mt G _ a (nrm t) := hT9
  refine A_pop (q := 10) X dX9_normalize_9 rfl rfl ?_
  have hg9 : Gd (nrm t) := Gd_run 0 200 t hgd
  have hl9 := hg9.1
  have hcl := cntP_le (rx (nrm t)) (nrm t).length
  refine A_aload_n (q := 11) X dX9_normalize_10 rfl rfl ?_
  refine A_S1i (q := 14) X (c_X9_redexes hG hT9 hg9) mX9_redexes kX9_108 dX9_normalize_11 (by decide) (Nat.le_of_ble_eq_true rfl) rfl (fun vq_6 cq_5 hq_4 => ?_)
  obtain ⟨rfl, hq_4⟩ := hq_4
  obtain rfl := hq_4.symm
  refine A_if_ne (q := 17) (t := 21) X dX9_normalize_14 (by omega) rfl rfl (fun hb14 => ?_) (fun hb14 => ?_)
  · refine A_iconst (q := 22) X dX9_normalize_21 rfl ?_
    exact A_zreturn X dX9_normalize_22 (by decide) ⟨zb0 (fun q => by have := fnd_cnt.mp q; omega), hT9, hO9, hSc9, hf9⟩
  · refine A_iconst (q := 18) X dX9_normalize_17 rfl ?_
    refine A_goto (q := 22) X dX9_normalize_18 rfl ?_
    exact A_zreturn X dX9_normalize_22 (by decide) ⟨zb1 (fnd_cnt.mpr (by omega)), hT9, hO9, hSc9, hf9⟩
set_option maxRecDepth 100000 in
set_option maxHeartbeats 4000000 in
theorem lp_X9_putBehind {l : Launch} {G : Gm} {K : Cx} {c0 : HP} {a : Nat} {t : List Int} {tok : Int} {F : Nat → Int} {th ts rmb obn tw pk : Int} {sd : Int64} (X : Fx l G K cX9_putBehind 5 RX9 ((some .boolean)) (rmR 1 21)) (hG : injG G) (hN : G.2.1 = 72) (h055 : c0 55 = ob9 G th ts rmb obn sd tw pk) (an : a ≠ 60) (ha0 : a < G.2.1) (haF : c0 a = aI G 201 F) (hl0 : t.length ≤ 200) (hS : F 200 = ((t.length : Nat) : Int)) (hF : ∀ k, k < t.length → F k = t.getD k 0) : ∀ (n : Nat) (i : Nat) (c : HP), t.length - i < n → i ≤ t.length → Po G c ([tok] ++ t.take i) → (∀ k, k ≠ 60 → c k = c0 k) → AW G K (Qi (fun v c' => v = zI (if (tok :: t).length ≤ 200 then 1 else 0) ∧ Po G c' (tok :: t) ∧ (∀ k, k ≠ 60 → c' k = c0 k))) 18 (mkL [some (.ref (G.1 55)), some (.int (zI tok)), some (.ref (G.1 a)), some (.int (zI (if ([tok] ++ t.take i).length ≤ 200 then 1 else 0 : Int))), some (.int (zI ((i : Nat) : Int)))]) [] c := by
  intro n
  induction n with
  | zero => intro i c hmz; exact absurd hmz (Nat.not_lt_zero _)
  | succ n ih =>
    intro i c hmz hi hPo hf0
    have h55 := (hf0 55 (by decide)).trans h055
    have ha := (hf0 a an).trans haF
    refine A_iload (q := 20) X dX9_putBehind_18 rfl rfl ?_
    refine A_aload_n (q := 21) X dX9_putBehind_20 rfl rfl ?_
    refine A_sipush (q := 24) X dX9_putBehind_21 (by decide) rfl ?_
    refine A_iald (q := 25) (h := a) 200 X dX9_putBehind_24 ha0 ha (by omega) (by omega) (by decide) rfl ?_
    rw [hS]
    refine A_icmp_ge (q := 28) (t := 55) X dX9_putBehind_25 (by omega) (by omega) rfl rfl (fun hb25 => ?_) (fun hb25 => ?_)
    · refine A_iload_n (q := 56) X dX9_putBehind_55 rfl rfl ?_
      have e9 : [tok] ++ t.take i = tok :: t := by rw [List.take_of_length_le (by omega)]; rfl
      rw [e9] at hPo ⊢
      exact A_zreturn X dX9_putBehind_56 bb_01 ⟨rfl, hPo, hf0⟩
    · refine A_iload_n (q := 29) X dX9_putBehind_28 rfl rfl ?_
      refine A_beq (q := 32) (t := 47) X dX9_putBehind_29 rfl rfl (fun hb29 => ?_) (fun hb29 => ?_)
      · refine A_iconst (q := 48) X dX9_putBehind_47 rfl ?_
        refine A_istore_n (q := 49) X dX9_putBehind_48 (by decide) (okP_s rfl rfl) rfl ?_
        refine A_iinc (q := 52) X dX9_putBehind_49 rfl (by decide) (okP_s rfl rfl) rfl ?_
        refine A_goto (q := 18) X dX9_putBehind_52 rfl ?_
        have eW : [tok] ++ t.take (i + 1) = ([tok] ++ t.take i) ++ [t.getD i 0] := by rw [take_succ_getD (by omega), List.append_assoc]
        have hbig : ¬ ([tok] ++ t.take (i + 1)).length ≤ 200 := by rw [eW, List.length_append]; intro q; exact hb29 (Nat.le_trans (Nat.le_add_right _ _) q)
        exact AW.loc (sS rfl (sS rfl (sS rfl (sS (congrArg (fun z => some (Value.int z)) (show zI 0 = zI (if ([tok] ++ t.take (i + 1)).length ≤ 200 then 1 else 0) from zb0 hbig)) (sZ rfl (by omega) sE))))) (ih (i + 1) _ (by omega) (by omega) (hPo.big hbig) (fun k n0 => (hf0 k n0)))
      · refine A_aload_n (q := 33) X dX9_putBehind_32 rfl rfl ?_
        refine A_aload_n (q := 34) X dX9_putBehind_33 rfl rfl ?_
        refine A_iload (q := 36) X dX9_putBehind_34 rfl rfl ?_
        refine A_iald (q := 37) (h := a) (i) X dX9_putBehind_36 ha0 ha (by omega) (by omega) (by decide) rfl ?_
        rw [hF i (by omega)]
        refine A_V1i (q := 40) X (c_X9_put (w := ([tok] ++ t.take i)) (t := (t.getD i 0)) hG hN h55 hPo hb29) mX9_put kX9_83 dX9_putBehind_37 (by omega) h55 rfl (by decide) (Nat.le_of_ble_eq_true rfl) rfl (fun vq_3 cq_2 hq_1 => ?_)
        obtain ⟨rfl, hPo_4, hfp_5⟩ := hq_1
        refine A_beq (q := 43) (t := 47) X dX9_putBehind_40 rfl rfl (fun hb40 => ?_) (fun hb40 => ?_)
        · refine A_iconst (q := 48) X dX9_putBehind_47 rfl ?_
          refine A_istore_n (q := 49) X dX9_putBehind_48 (by decide) (okP_s rfl rfl) rfl ?_
          refine A_iinc (q := 52) X dX9_putBehind_49 rfl (by decide) (okP_s rfl rfl) rfl ?_
          refine A_goto (q := 18) X dX9_putBehind_52 rfl ?_
          have eW : [tok] ++ t.take (i + 1) = ([tok] ++ t.take i) ++ [t.getD i 0] := by rw [take_succ_getD (by omega), List.append_assoc]
          exact AW.loc (sS rfl (sS rfl (sS rfl (sS (congrArg (fun z => some (Value.int z)) (show zI 0 = zI (if ([tok] ++ t.take (i + 1)).length ≤ 200 then 1 else 0) from zb0 (by rw [eW]; exact hb40))) (sZ rfl (by omega) sE))))) (ih (i + 1) _ (by omega) (by omega) (by rw [eW]; exact hPo_4) (fun k n0 => ((hfp_5 k (by omega)).trans (hf0 k n0))))
        · refine A_iconst (q := 44) X dX9_putBehind_43 rfl ?_
          refine A_goto (q := 48) X dX9_putBehind_44 rfl ?_
          refine A_istore_n (q := 49) X dX9_putBehind_48 (by decide) (okP_s rfl rfl) rfl ?_
          refine A_iinc (q := 52) X dX9_putBehind_49 rfl (by decide) (okP_s rfl rfl) rfl ?_
          refine A_goto (q := 18) X dX9_putBehind_52 rfl ?_
          have eW : [tok] ++ t.take (i + 1) = ([tok] ++ t.take i) ++ [t.getD i 0] := by rw [take_succ_getD (by omega), List.append_assoc]
          exact AW.loc (sS rfl (sS rfl (sS rfl (sS (congrArg (fun z => some (Value.int z)) (show zI 1 = zI (if ([tok] ++ t.take (i + 1)).length ≤ 200 then 1 else 0) from zb1 (by rw [eW]; exact hb40))) (sZ rfl (by omega) sE))))) (ih (i + 1) _ (by omega) (by omega) (by rw [eW]; exact hPo_4) (fun k n0 => ((hfp_5 k (by omega)).trans (hf0 k n0))))
set_option maxRecDepth 100000 in
set_option maxHeartbeats 4000000 in
theorem c_X9_putBehind {l : Launch} {G : Gm} {c : HP} {a : Nat} {t : List Int} {tok : Int} {th ts rmb obn tw pk : Int} {sd : Int64} (hG : injG G) (hN : G.2.1 = 72) (h55 : c 55 = ob9 G th ts rmb obn sd tw pk) (an : a ≠ 60) (hT : Mt G c a t) (hO : Mr G c 60) : AMet l G yX9_putBehind cX9_putBehind 5 ((some .boolean)) (rmR 1 21) [.ref (G.1 55), .int (zI tok), .ref (G.1 a)] c (Qi (fun v c' => v = zI (if (tok :: t).length ≤ 200 then 1 else 0) ∧ Po G c' (tok :: t) ∧ (∀ k, k ≠ 60 → c' k = c k))) := by
  refine AMet.of (vl := [some (.ref (G.1 55)), some (.int (zI tok)), some (.ref (G.1 a))]) (by decide) hG (Nat.le_of_ble_eq_true rfl) rfl ?_
  intro K X
  have X : Fx l G K cX9_putBehind 5 RX9 ((some .boolean)) (rmR 1 21) := X
  obtain ⟨ha0, hl0, F, ha, hS, hF⟩ := hT
  obtain ⟨hN6, F6, h60⟩ := hO
  refine A_aload_n (q := 1) X dX9_putBehind_0 rfl rfl ?_
  refine A_getf (q := 4) X fX9_22 dX9_putBehind_1 (by omega) h55 rfl rfl ?_
  refine A_sipush (q := 7) X dX9_putBehind_4 (by decide) rfl ?_
  refine A_iconst (q := 8) X dX9_putBehind_7 rfl ?_
  refine A_iast (q := 9) (h := 60) 200 X dX9_putBehind_8 (by omega) h60 (by omega) (by omega) (by decide) rfl ?_
  refine A_aload_n (q := 10) X dX9_putBehind_9 rfl rfl ?_
  refine A_iload_n (q := 11) X dX9_putBehind_10 rfl rfl ?_
  have hm : ∀ c2 : HP, c2 60 = aI G 201 (va_up F6 200 0) → Mt G c2 60 [] := fun c2 h2 => ⟨by omega, by decide, _, h2, lk_eq, fun k hk => absurd hk (Nat.not_lt_zero _)⟩
  refine A_V1i (q := 14) X (c_X9_put (w := []) (t := tok) hG hN (lk_ne (by omega) h55) ⟨fun _ => hm _ lk_eq, _, hm _ lk_eq⟩ (by decide)) mX9_put kX9_83 dX9_putBehind_11 (by omega) (lk_ne (by omega) h55) rfl (by decide) (Nat.le_of_ble_eq_true rfl) rfl (fun vq_3 cq_2 hq_1 => ?_)
  obtain ⟨rfl, hPo, hfp⟩ := hq_1
  refine A_istore_n (q := 15) X dX9_putBehind_14 (by decide) (okP_s rfl rfl) rfl ?_
  refine A_iconst (q := 16) X dX9_putBehind_15 rfl ?_
  refine A_istore (q := 18) X dX9_putBehind_16 (by decide) (okP_s rfl rfl) rfl ?_
  exact AW.loc (sS rfl (sS rfl (sS rfl (sS rfl (sZ rfl rfl sE))))) (lp_X9_putBehind X hG hN h55 an ha0 ha hl0 hS hF _ 0 _ (Nat.lt_succ_self _) (Nat.zero_le _) hPo (fun k n0 => ((hfp k (by omega)).trans (lk_ne (by omega) rfl))))
set_option maxRecDepth 100000 in
set_option maxHeartbeats 4000000 in
theorem lp_X9_takeSlot {l : Launch} {G : Gm} {K : Cx} {c0 : HP} {b sl : Nat} {t : List Int} {FS : Nat → Int} {th ts rmb obn tw pk : Int} {sd : Int64} (X : Fx l G K cX9_takeSlot 4 RX9 (none) (rmR 0 0)) (hG : injG G) (hN : G.2.1 = 72) (h055 : c0 55 = ob9 G th ts rmb obn sd tw pk) (hb0 : b < G.2.1) (bn : b ≠ 55 ∧ b ≠ 62) (h062 : c0 62 = aI G 402 FS) (hsl : sl ≤ 1) (hl0 : t.length ≤ 200) (hS : FS (201 * sl + 200) = ((t.length : Nat) : Int)) (hF : ∀ k, k < t.length → FS (201 * sl + k) = t.getD k 0) : ∀ (n : Nat) (i : Nat) (H : Nat → Int) (c : HP), 201 - i < n → i ≤ 201 → c b = aI G 201 H → (∀ k, k < i → H k = FS (201 * sl + k)) → (∀ k, k ≠ b → c k = c0 k) → AW G K (Qv (fun c' => Mt G c' b t ∧ (∀ k, k ≠ b → c' k = c0 k))) 2 (mkL [some (.ref (G.1 55)), some (.int (zI ((sl : Nat) : Int))), some (.ref (G.1 b)), some (.int (zI ((i : Nat) : Int)))]) [] c := by
  intro n
  induction n with
  | zero => intro i H c hmz; exact absurd hmz (Nat.not_lt_zero _)
  | succ n ih =>
    intro i H c hmz hi hb hH hf0
    have h55 := (hf0 55 (Ne.symm bn.1)).trans h055
    have h62 := (hf0 62 (Ne.symm bn.2)).trans h062
    refine A_iload_n (q := 3) X dX9_takeSlot_2 rfl rfl ?_
    refine A_sipush (q := 6) X dX9_takeSlot_3 (by decide) rfl ?_
    refine A_icmp_ge (q := 9) (t := 30) X dX9_takeSlot_6 (by omega) (by decide) rfl rfl (fun hb6 => ?_) (fun hb6 => ?_)
    · exact A_return X dX9_takeSlot_30 ⟨⟨hb0, hl0, H, hb, (hH 200 (by omega)).trans hS, fun k hk => (hH k (by omega)).trans (hF k hk)⟩, hf0⟩
    · refine A_aload_n (q := 10) X dX9_takeSlot_9 rfl rfl ?_
      refine A_iload_n (q := 11) X dX9_takeSlot_10 rfl rfl ?_
      refine A_aload_n (q := 12) X dX9_takeSlot_11 rfl rfl ?_
      refine A_getf (q := 15) X fX9_28 dX9_takeSlot_12 (by omega) h55 rfl rfl ?_
      refine A_sipush (q := 18) X dX9_takeSlot_15 (by decide) rfl ?_
      refine A_iload_n (q := 19) X dX9_takeSlot_18 rfl rfl ?_
      refine A_imul (q := 20) X dX9_takeSlot_19 rfl ?_
      refine A_iload_n (q := 21) X dX9_takeSlot_20 rfl rfl ?_
      refine A_iadd (q := 22) X dX9_takeSlot_21 rfl ?_
      refine A_iald (q := 23) (h := 62) ((201 * (sl)) + (i)) X dX9_takeSlot_22 (by omega) h62 (by omega) (by omega) (by decide) rfl ?_
      refine A_iast (q := 24) (h := b) (i) X dX9_takeSlot_23 hb0 hb (by omega) (by omega) (by decide) rfl ?_
      refine A_iinc (q := 27) X dX9_takeSlot_24 rfl (by decide) (okP_s rfl rfl) rfl ?_
      refine A_goto (q := 2) X dX9_takeSlot_27 rfl ?_
      exact AW.loc (sS rfl (sS rfl (sS rfl (sZ rfl (by omega) sE)))) (ih (i + 1) (va_up H i (FS (201 * sl + i))) _ (by omega) (by omega) lk_eq (fun k hk => by by_cases e : k = i; (subst e; exact lk_eq); exact lk_ne e (hH k (by omega))) (fun k n0 => lk_ne n0 (hf0 k n0)))
set_option maxRecDepth 100000 in
set_option maxHeartbeats 4000000 in
theorem c_X9_takeSlot {l : Launch} {G : Gm} {c : HP} {b sl : Nat} {t : List Int} {FS : Nat → Int} {th ts rmb obn tw pk : Int} {sd : Int64} (hG : injG G) (hN : G.2.1 = 72) (h55 : c 55 = ob9 G th ts rmb obn sd tw pk) (hR : Mr G c b) (bn : b ≠ 55 ∧ b ≠ 62) (h62 : c 62 = aI G 402 FS) (hsl : sl ≤ 1) (hl0 : t.length ≤ 200) (hS : FS (201 * sl + 200) = ((t.length : Nat) : Int)) (hF : ∀ k, k < t.length → FS (201 * sl + k) = t.getD k 0) : AMet l G yX9_takeSlot cX9_takeSlot 4 (none) (rmR 0 0) [.ref (G.1 55), .int (zI ((sl : Nat) : Int)), .ref (G.1 b)] c (Qv (fun c' => Mt G c' b t ∧ (∀ k, k ≠ b → c' k = c k))) := by
  refine AMet.of (vl := [some (.ref (G.1 55)), some (.int (zI ((sl : Nat) : Int))), some (.ref (G.1 b))]) (by decide) hG (Nat.le_of_ble_eq_true rfl) rfl ?_
  intro K X
  have X : Fx l G K cX9_takeSlot 4 RX9 (none) (rmR 0 0) := X
  obtain ⟨hb0, H, hb⟩ := hR
  refine A_iconst (q := 1) X dX9_takeSlot_0 rfl ?_
  refine A_istore_n (q := 2) X dX9_takeSlot_1 (by decide) (okP_s rfl rfl) rfl ?_
  exact AW.loc (sS rfl (sS rfl (sS rfl (sZ rfl rfl sE)))) (lp_X9_takeSlot X hG hN h55 hb0 bn h62 hsl hl0 hS hF _ 0 H c (Nat.lt_succ_self _) (Nat.zero_le _) hb (fun k hk => absurd hk (Nat.not_lt_zero _)) (fun _ _ => rfl))
