/-! MACHINE: start and work -/
def mrun (mg : Prop) [Decidable mg] : Nat → List Int → (Nat → Int) → Int → Option ((Nat → Int) × Int)
  | 0, l, ap, pk => if fnd (anyR l mg) l.length = -9 then some (ap, pk) else none
  | n + 1, l, ap, pk => if fnd (anyR l mg) l.length = -9 then some (ap, pk) else
      if 300 < (rwX l (fnd (anyR l mg) l.length).toNat (rlZ l (fnd (anyR l mg) l.length) mg)).length then none else
      mrun mg n (rwX l (fnd (anyR l mg) l.length).toNat (rlZ l (fnd (anyR l mg) l.length) mg)) (va_up ap (rlZ l (fnd (anyR l mg) l.length) mg).toNat (ap (rlZ l (fnd (anyR l mg) l.length) mg).toNat + 1)) (max pk ((rwX l (fnd (anyR l mg) l.length).toNat (rlZ l (fnd (anyR l mg) l.length) mg)).length : Nat))
theorem mrun_stop {mg : Prop} [Decidable mg] {n : Nat} {l : List Int} {ap : Nat → Int} {pk : Int} (h : fnd (anyR l mg) l.length = -9) : mrun mg n l ap pk = some (ap, pk) := by
  cases n with
  | zero => unfold mrun; rw [if_pos h]
  | succ n => unfold mrun; rw [if_pos h]
theorem mrun_none {mg : Prop} [Decidable mg] {l : List Int} {ap : Nat → Int} {pk : Int} (h : ¬ fnd (anyR l mg) l.length = -9) : mrun mg 0 l ap pk = none := by
  unfold mrun; rw [if_neg h]
theorem mrun_step {mg : Prop} [Decidable mg] {n : Nat} {l : List Int} {ap : Nat → Int} {pk : Int} {k : Nat} (h : fnd (anyR l mg) l.length = (k : Nat)) : mrun mg (n + 1) l ap pk = if 300 < (rwX l k (rlZ l (k : Nat) mg)).length then none else mrun mg n (rwX l k (rlZ l (k : Nat) mg)) (va_up ap (rlZ l (k : Nat) mg).toNat (ap (rlZ l (k : Nat) mg).toNat + 1)) (max pk ((rwX l k (rlZ l (k : Nat) mg)).length : Nat)) := by
  rw [mrun, if_neg (by rw [h]; omega), h, Int.toNat_natCast]
set_option maxRecDepth 100000 in
set_option maxHeartbeats 4000000 in
theorem lp2_X2_start {l : Launch} {G : Gm} {K : Cx} {c0 : HP} {P Q : Nat} {T0 X1 : List Int × Int} {pk : Int} (X : Fx l G K cX2_start 3 RX2 (none) (rmR 2 44)) (hG : injG G) (hN : G.2.1 = 72) (hpk : pk = (T0.1.length : Nat)) (hX1 : X1 = (T0.1, 0)) : ∀ (n : Nat) (i : Nat) (ap : Nat → Int) (c : HP), 5 - i < n → i ≤ 5 → Mc G c P Q X1 ap pk → (∀ k, k < i → ap k = 0) → (∀ k, k < 23 ∨ 32 < k → c k = c0 k) → AW G K (Qv (fun c' => ∃ P' Q' ap', Mc G c' P' Q' (T0.1, 0) ap' (T0.1.length : Nat) ∧ (∀ k, k < 5 → ap' k = 0) ∧ (∀ k, k < 23 ∨ 32 < k → c' k = c0 k))) 48 (mkL [some (.ref (G.1 23)), none, some (.int (zI ((i : Nat) : Int)))]) [] c := by
  intro n
  induction n with
  | zero => intro i ap c hmz; exact absurd hmz (Nat.not_lt_zero _)
  | succ n ih =>
    intro i ap c hmz hi hM hz hf0
    obtain ⟨g1, g2, g3, ⟨T4, g4⟩, g5⟩ := id hM
    refine A_iload_n (q := 49) X dX2_start_48 rfl rfl ?_
    refine A_iconst (q := 50) X dX2_start_49 rfl ?_
    refine A_icmp_ge (q := 53) (t := 66) X dX2_start_50 (by omega) (by decide) rfl rfl (fun hb50 => ?_) (fun hb50 => ?_)
    · refine A_return X dX2_start_66 ⟨P, Q, ap, ?_, fun k hk => hz k (by omega), hf0⟩
      obtain ⟨g1, g2, g3, g4, g5⟩ := hM
      rw [hpk] at g2; rw [hX1] at g3
      exact ⟨g1, g2, g3, g4, g5⟩
    · refine A_aload_n (q := 54) X dX2_start_53 rfl rfl ?_
      refine A_getf (q := 57) X fX2_21 dX2_start_54 (by omega) hM.2.1 rfl rfl ?_
      refine A_iload_n (q := 58) X dX2_start_57 rfl rfl ?_
      refine A_iconst (q := 59) X dX2_start_58 rfl ?_
      refine A_iast (q := 60) (h := 32) (i) X dX2_start_59 (by omega) hM.2.2.2.2 (by omega) (by omega) (by decide) rfl ?_
      refine A_iinc (q := 63) X dX2_start_60 rfl (by decide) (okP_n rfl) rfl ?_
      refine A_goto (q := 48) X dX2_start_63 rfl ?_
      exact AW.loc (sS rfl (sN (sZ rfl (by omega) sE))) (ih (i + 1) _ _ (by omega) (by omega) ⟨g1, (lk_ne (by omega) g2), g3.keep (lk_ne (by omega) rfl) (lk_ne (by omega) rfl) (lk_ne (by omega) rfl) (lk_ne (by omega) rfl), ⟨T4, g4.keep (lk_ne (by omega) rfl) (lk_ne (by omega) rfl) (lk_ne (by omega) rfl) (lk_ne (by omega) rfl)⟩, lk_eq⟩ (fun k hk => by by_cases e : k = i; (subst e; exact lk_eq); (exact (lk_ne e rfl).trans (hz k (by omega)))) (fun k n0 => lk_ne (by omega) (hf0 k n0)))
set_option maxRecDepth 100000 in
set_option maxHeartbeats 4000000 in
theorem lp_X2_start {l : Launch} {G : Gm} {K : Cx} {c0 : HP} {P Q t ta : Nat} {T0 : List Int × Int} {pk : Int} {ap : Nat → Int} (X : Fx l G K cX2_start 3 RX2 (none) (rmR 2 44)) (hG : injG G) (hN : G.2.1 = 72) (hPQ : (P = 24 ∧ Q = 28) ∨ (P = 28 ∧ Q = 24)) (h230 : c23 G c0 P Q pk) (hQ0 : ∃ T, Ex G c0 Q (Q + 1) (Q + 2) (Q + 3) T) (h320 : c0 32 = aI G 5 ap) (hT0 : Tm G c0 t ta T0) (hgd : Gd T0.1) (x1 : t < 11) (x2 : ta < 11) : ∀ (n : Nat) (i : Nat) (X1 : List Int × Int) (c : HP), T0.1.length - i < n → i ≤ T0.1.length → Ex G c P (P + 1) (P + 2) (P + 3) X1 → X1 = (T0.1.take i, 0) → (∀ k, k ≠ P → k ≠ P + 1 → k ≠ P + 2 → k ≠ P + 3 → c k = c0 k) → AW G K (Qv (fun c' => ∃ P' Q' ap', Mc G c' P' Q' (T0.1, 0) ap' (T0.1.length : Nat) ∧ (∀ k, k < 5 → ap' k = 0) ∧ (∀ k, k < 23 ∨ 32 < k → c' k = c0 k))) 9 (mkL [some (.ref (G.1 23)), some (.ref (G.1 t)), some (.int (zI ((i : Nat) : Int)))]) [] c := by
  intro n
  induction n with
  | zero => intro i X1 c hmz; exact absurd hmz (Nat.not_lt_zero _)
  | succ n ih =>
    intro i X1 c hmz hi hE hXe hf0
    have h23 := (hf0 23 (by omega) (by omega) (by omega) (by omega)).trans h230
    have hT := hT0.keep (hf0 t (by omega) (by omega) (by omega) (by omega)) (hf0 ta (by omega) (by omega) (by omega) (by omega))
    have hlen := hT.len
    have hl1 := hE.len
    refine A_iload_n (q := 10) X dX2_start_9 rfl rfl ?_
    refine A_aload_n (q := 11) X dX2_start_10 rfl rfl ?_
    refine A_V0i (q := 14) X (c_X6_length hG hT) mX6_length kX2_62 dX2_start_11 hT.lt hT.cell rfl (by decide) (Nat.le_of_ble_eq_true rfl) rfl (fun vq_3 cq_2 hq_1 => ?_)
    obtain ⟨rfl, hq_1⟩ := hq_1
    obtain rfl := hq_1.symm
    refine A_icmp_ge (q := 17) (t := 35) X dX2_start_14 (by omega) (by omega) rfl rfl (fun hb14 => ?_) (fun hb14 => ?_)
    · refine A_aload_n (q := 36) X dX2_start_35 rfl rfl ?_
      refine A_aload_n (q := 37) X dX2_start_36 rfl rfl ?_
      refine A_getf (q := 40) X fX2_12 dX2_start_37 (by omega) h23 rfl rfl ?_
      refine A_V0i (q := 43) X (c_X0_length hG hE) mX0_length kX2_49 dX2_start_40 hE.lt hE.cell rfl (by decide) (Nat.le_of_ble_eq_true rfl) rfl (fun vq_6 cq_5 hq_4 => ?_)
      obtain ⟨rfl, hq_4⟩ := hq_4
      obtain rfl := hq_4.symm
      refine A_putf (q := 46) X pX2_25 dX2_start_43 (by omega) h23 (Nat.le_of_ble_eq_true rfl) rfl rfl rfl ?_
      refine A_iconst (q := 47) X dX2_start_46 rfl ?_
      refine A_istore_n (q := 48) X dX2_start_47 (by decide) (okP_s rfl rfl) rfl ?_
      obtain ⟨TQ, hQ⟩ := hQ0
      have hX9 : X1 = (T0.1, 0) := by rw [hXe, List.take_of_length_le (by omega)]
      exact AW.loc (sS rfl (sN (sZ rfl (by omega) sE))) (lp2_X2_start (P := P) (Q := Q) (X1 := X1) (pk := ((X1.1.length : Nat) : Int)) X hG hN (by rw [hX9]) hX9 _ 0 ap _ (Nat.lt_succ_self _) (Nat.zero_le _) ⟨hPQ, lk_eq, hE.keep (lk_ne (by omega) rfl) (lk_ne (by omega) rfl) (lk_ne (by omega) rfl) (lk_ne (by omega) rfl), ⟨TQ, hQ.keep (lk_ne (by omega) (hf0 _ (by omega) (by omega) (by omega) (by omega))) (lk_ne (by omega) (hf0 _ (by omega) (by omega) (by omega) (by omega))) (lk_ne (by omega) (hf0 _ (by omega) (by omega) (by omega) (by omega))) (lk_ne (by omega) (hf0 _ (by omega) (by omega) (by omega) (by omega)))⟩, lk_ne (by omega) ((hf0 32 (by omega) (by omega) (by omega) (by omega)).trans h320)⟩ (fun k hk => absurd hk (Nat.not_lt_zero k)) (fun k n0 => lk_ne (by omega) (hf0 k (by omega) (by omega) (by omega) (by omega))))
    · refine A_aload_n (q := 18) X dX2_start_17 rfl rfl ?_
      refine A_getf (q := 21) X fX2_12 dX2_start_18 (by omega) h23 rfl rfl ?_
      refine A_aload_n (q := 22) X dX2_start_21 rfl rfl ?_
      refine A_iload_n (q := 23) X dX2_start_22 rfl rfl ?_
      refine A_V1i (q := 26) X (c_X6_token hG hT (by omega)) mX6_token kX2_65 dX2_start_23 hT.lt hT.cell rfl (by decide) (Nat.le_of_ble_eq_true rfl) rfl (fun vq_9 cq_8 hq_7 => ?_)
      obtain ⟨rfl, hq_7⟩ := hq_7
      obtain rfl := hq_7.symm
      rw [tokA_in (by omega)]
      have htk := hgd.at (i := i) (by omega)
      refine A_V1v (q := 29) X (c_X0_add (t := (T0.1.getD i 0)) hG hE (by omega)) mX0_add kX2_69 dX2_start_26 hE.lt hE.cell rfl (by decide) (Nat.le_of_ble_eq_true rfl) rfl (fun cq_11 hq_10 => ?_)
      obtain ⟨hE_12, hf_13⟩ := hq_10
      refine A_iinc (q := 32) X dX2_start_29 rfl (by decide) (okP_s rfl rfl) rfl ?_
      refine A_goto (q := 9) X dX2_start_32 rfl ?_
      exact AW.loc (sS rfl (sS rfl (sZ rfl (by omega) sE))) (ih (i + 1) _ _ (by omega) (by omega) hE_12 (by rw [hXe]; unfold xAdd; rw [if_pos (by show (T0.1.take i).length < 300; rw [List.length_take]; omega), take_succ_getD (by omega)]) (fun k n0 n1 n2 n3 => (hf_13 k n0 n1 n2 n3).trans (hf0 k n0 n1 n2 n3)))
set_option maxRecDepth 100000 in
set_option maxHeartbeats 4000000 in
theorem c_X2_start {l : Launch} {G : Gm} {c : HP} {P Q t ta : Nat} {T0 X1 : List Int × Int} {pk : Int} {ap : Nat → Int} (hG : injG G) (hN : G.2.1 = 72) (hM : Mc G c P Q X1 ap pk) (hT : Tm G c t ta T0) (hgd : Gd T0.1) (x1 : t < 11) (x2 : ta < 11) : AMet l G yX2_start cX2_start 3 (none) (rmR 2 44) [.ref (G.1 23), .ref (G.1 t)] c (Qv (fun c' => ∃ P' Q' ap', Mc G c' P' Q' (T0.1, 0) ap' (T0.1.length : Nat) ∧ (∀ k, k < 5 → ap' k = 0) ∧ (∀ k, k < 23 ∨ 32 < k → c' k = c k))) := by
  refine AMet.of (vl := [some (.ref (G.1 23)), some (.ref (G.1 t))]) (by decide) hG (Nat.le_of_ble_eq_true rfl) rfl ?_
  intro K X
  have X : Fx l G K cX2_start 3 RX2 (none) (rmR 2 44) := X
  obtain ⟨hPQ, h23, hE, ⟨T, hE2⟩, h32⟩ := hM
  refine A_aload_n (q := 1) X dX2_start_0 rfl rfl ?_
  refine A_getf (q := 4) X fX2_12 dX2_start_1 (by omega) h23 rfl rfl ?_
  refine A_V0v (q := 7) X (c_X0_clear hG hE) mX0_clear kX2_59 dX2_start_4 hE.lt hE.cell rfl (by decide) (Nat.le_of_ble_eq_true rfl) rfl (fun cq_2 hq_1 => ?_)
  obtain ⟨hE_3, hf_4⟩ := hq_1
  refine A_iconst (q := 8) X dX2_start_7 rfl ?_
  refine A_istore_n (q := 9) X dX2_start_8 (by decide) (okP_s rfl rfl) rfl ?_
  exact AW.loc (sS rfl (sS rfl (sZ rfl (by omega) sE))) (lp_X2_start X hG hN hPQ h23 ⟨T, hE2⟩ h32 hT hgd x1 x2 _ 0 _ _ (Nat.lt_succ_self _) (Nat.zero_le _) hE_3 (by rw [List.take_zero]) hf_4)
set_option maxRecDepth 100000 in
set_option maxHeartbeats 4000000 in
theorem lp_X2_work {l : Launch} {G : Gm} {K : Cx} {c0 : HP} {t : Nat} {l0 : List Int} {mg : Prop} {dm : Decidable mg} (X : Fx l G K cX2_work 5 RX2 ((some .boolean)) (rmR 4 118)) (hG : injG G) (hN : G.2.1 = 72) : ∀ (n : Nat) (i : Nat) (P : Nat) (Q : Nat) (X1 : List Int × Int) (ap : Nat → Int) (a0 : Nat → Int) (pk : Int) (c : HP), 600 - i < n → i ≤ 600 → Mc G c P Q X1 ap pk → XG X1.1 → (∀ k, k < 5 → a0 k = ap k) → 0 ≤ pk ∧ pk ≤ 300 → mrun mg 600 l0 (fun _ => 0) (l0.length : Nat) = mrun mg (600 - i) X1.1 a0 pk → (∀ k, k < 23 ∨ 32 < k → c k = c0 k) → AW G K (Qi (fun v c' => v = zI (if (mrun mg 600 l0 (fun _ => 0) (l0.length : Nat)).isSome = true then 1 else 0) ∧ (∃ P' Q' X' ap' pk', Mc G c' P' Q' X' ap' pk' ∧ ∀ r, mrun mg 600 l0 (fun _ => 0) (l0.length : Nat) = some r → (∀ k, k < 5 → r.1 k = ap' k) ∧ r.2 = pk') ∧ (∀ k, k < 23 ∨ 32 < k → c' k = c0 k))) 7 (mkL [some (.ref (G.1 23)), some (.ref (G.1 t)), some (.int (zI (if mg then 1 else 0 : Int))), some (.int (zI ((i : Nat) : Int))), none]) [] c := by
  intro n
  induction n with
  | zero => intro i P Q X1 ap a0 pk c hmz; exact absurd hmz (Nat.not_lt_zero _)
  | succ n ih =>
    intro i P Q X1 ap a0 pk c hmz hi hM hXG hap hpk hrun hf0
    obtain ⟨hPQ, h23, hE, ⟨T, hE2⟩, h32⟩ := id hM
    have hXB := hXG.xb
    have hl1 := hE.len
    refine A_iload_n (q := 8) X dX2_work_7 rfl rfl ?_
    refine A_sipush (q := 11) X dX2_work_8 (by decide) rfl ?_
    refine A_icmp_ge (q := 14) (t := 79) X dX2_work_11 (by omega) (by decide) rfl rfl (fun hb11 => ?_) (fun hb11 => ?_)
    · refine A_aload_n (q := 80) X dX2_work_79 rfl rfl ?_
      refine A_iload_n (q := 81) X dX2_work_80 rfl rfl ?_
      refine A_V1i (q := 84) X (c_X2_firstPlace (dm := dm) hG hN hPQ h23 hE hXB) mX2_firstPlace kX2_33 dX2_work_81 (by omega) h23 rfl (by decide) (Nat.le_of_ble_eq_true rfl) rfl (fun vq_3 cq_2 hq_1 => ?_)
      obtain ⟨rfl, hq_1⟩ := hq_1
      obtain rfl := hq_1.symm
      have qf : -9 ≤ fnd (anyR X1.1 mg) X1.1.length ∧ fnd (anyR X1.1 mg) X1.1.length ≤ 1000 := by rcases fnd_cases (anyR X1.1 mg) X1.1.length with ⟨h, -⟩ | ⟨k, h1, h2, -⟩ <;> omega
      refine A_bipush (q := 86) X dX2_work_84 (by decide) rfl ?_
      refine A_icmp_ne (q := 89) (t := 93) X dX2_work_86 (by omega) (by decide) rfl rfl (fun hb86 => ?_) (fun hb86 => ?_)
      · refine A_iconst (q := 94) X dX2_work_93 rfl ?_
        exact A_zreturn X dX2_work_94 (by decide) ⟨zb0 (by rw [hrun, show 600 - i = 0 by omega, mrun_none (by omega)]; decide), ⟨P, Q, X1, ap, pk, hM, fun r hr => by rw [hrun, show 600 - i = 0 by omega, mrun_none (by omega)] at hr; cases hr⟩, hf0⟩
      · refine A_iconst (q := 90) X dX2_work_89 rfl ?_
        refine A_goto (q := 94) X dX2_work_90 rfl ?_
        exact A_zreturn X dX2_work_94 (by decide) ⟨zb1 (by rw [hrun, mrun_stop (by omega)]; rfl), ⟨P, Q, X1, ap, pk, hM, fun r hr => by rw [hrun, mrun_stop (by omega)] at hr; cases hr; exact ⟨hap, rfl⟩⟩, hf0⟩
    · refine A_aload_n (q := 15) X dX2_work_14 rfl rfl ?_
      refine A_iload_n (q := 16) X dX2_work_15 rfl rfl ?_
      refine A_V1i (q := 19) X (c_X2_firstPlace (dm := dm) hG hN hPQ h23 hE hXB) mX2_firstPlace kX2_33 dX2_work_16 (by omega) h23 rfl (by decide) (Nat.le_of_ble_eq_true rfl) rfl (fun vq_6 cq_5 hq_4 => ?_)
      obtain ⟨rfl, hq_4⟩ := hq_4
      obtain rfl := hq_4.symm
      have qf : -9 ≤ fnd (anyR X1.1 mg) X1.1.length ∧ fnd (anyR X1.1 mg) X1.1.length ≤ 1000 := by rcases fnd_cases (anyR X1.1 mg) X1.1.length with ⟨h, -⟩ | ⟨k, h1, h2, -⟩ <;> omega
      refine A_istore (q := 21) X dX2_work_19 (by decide) (okP_s rfl rfl) rfl ?_
      refine A_iload (q := 23) X dX2_work_21 rfl rfl ?_
      refine A_bipush (q := 25) X dX2_work_23 (by decide) rfl ?_
      refine A_icmp_ne (q := 28) (t := 30) X dX2_work_25 (by omega) (by decide) rfl rfl (fun hb25 => ?_) (fun hb25 => ?_)
      · obtain ⟨k9, hk9l, hk9, hk9r⟩ : ∃ k9, k9 < X1.1.length ∧ fnd (anyR X1.1 mg) X1.1.length = ((k9 : Nat) : Int) ∧ anyR X1.1 mg k9 := by rcases fnd_cases (anyR X1.1 mg) X1.1.length with ⟨h, -⟩ | ⟨k, h1, h2, h3, -⟩; (exact absurd h hb25); exact ⟨k, h1, h2, h3⟩
        have hrc := rlZ_cases hXG hk9l hk9r
        rw [hk9]
        refine A_aload_n (q := 31) X dX2_work_30 rfl rfl ?_
        refine A_iload (q := 33) X dX2_work_31 rfl rfl ?_
        refine A_aload_n (q := 34) X dX2_work_33 rfl rfl ?_
        refine A_iload (q := 36) X dX2_work_34 rfl rfl ?_
        refine A_iload_n (q := 37) X dX2_work_36 rfl rfl ?_
        refine A_V2i (q := 40) X (c_X2_ruleAt (dm := dm) hG hN hPQ h23 hE hXB (by omega)) mX2_ruleAt kX2_37 dX2_work_37 (by omega) h23 rfl (by decide) (Nat.le_of_ble_eq_true rfl) rfl (fun vq_9 cq_8 hq_7 => ?_)
        obtain ⟨rfl, hq_7⟩ := hq_7
        obtain rfl := hq_7.symm
        refine A_V2v (q := 43) X (c_X2_rewrite (p := k9) (r := rlZ X1.1 (k9 : Nat) mg) hG hN hM hXG hrc) mX2_rewrite kX2_41 dX2_work_40 (by omega) h23 rfl (by decide) (Nat.le_of_ble_eq_true rfl) rfl (fun cq_11 hq_10 => ?_)
        obtain ⟨T2, hM2, hx2, hf2⟩ := hq_10
        obtain ⟨hPQ2, h232, hE22, ⟨T3, hE23⟩, h322⟩ := id hM2
        refine A_aload_n (q := 44) X dX2_work_43 rfl rfl ?_
        refine A_getf (q := 47) X fX2_12 dX2_work_44 (by omega) h232 rfl rfl ?_
        refine A_V0i (q := 50) X (c_X0_isTooLarge hG hE22) mX0_isTooLarge kX2_45 dX2_work_47 hE22.lt hE22.cell rfl (by decide) (Nat.le_of_ble_eq_true rfl) rfl (fun vq_14 cq_13 hq_12 => ?_)
        obtain ⟨rfl, hq_12⟩ := hq_12
        obtain rfl := hq_12.symm
        have hb01 := hE22.b01
        have hl22 := hE22.len
        refine A_if_eq (q := 53) (t := 55) X dX2_work_50 (by omega) rfl rfl (fun hb50 => ?_) (fun hb50 => ?_)
        · have hT2 := RsX_0 hx2 (by omega)
          have hle : (rwX X1.1 k9 (rlZ X1.1 (k9 : Nat) mg)).length ≤ 300 := by rw [hT2] at hl22; exact hl22
          refine A_aload_n (q := 56) X dX2_work_55 rfl rfl ?_
          refine A_aload_n (q := 57) X dX2_work_56 rfl rfl ?_
          refine A_getf (q := 60) X fX2_25 dX2_work_57 (by omega) h232 rfl rfl ?_
          refine A_aload_n (q := 61) X dX2_work_60 rfl rfl ?_
          refine A_getf (q := 64) X fX2_12 dX2_work_61 (by omega) h232 rfl rfl ?_
          refine A_V0i (q := 67) X (c_X0_length hG hE22) mX0_length kX2_49 dX2_work_64 hE22.lt hE22.cell rfl (by decide) (Nat.le_of_ble_eq_true rfl) rfl (fun vq_17 cq_16 hq_15 => ?_)
          obtain ⟨rfl, hq_15⟩ := hq_15
          obtain rfl := hq_15.symm
          refine A_mmax (q := 70) X dX2_work_67 kX2_53 q_max1 q_math1 q_max2 (by omega) (by omega) (by decide) (Nat.le_of_ble_eq_true rfl) rfl ?_
          refine A_putf (q := 73) X pX2_25 dX2_work_70 (by omega) h232 (Nat.le_of_ble_eq_true rfl) rfl rfl rfl ?_
          refine A_iinc (q := 76) X dX2_work_73 rfl (by decide) (okP_s rfl rfl) rfl ?_
          refine A_goto (q := 7) X dX2_work_76 rfl ?_
          have hap2 : ∀ k, k < 5 → va_up a0 (rlZ X1.1 (k9 : Nat) mg).toNat (a0 (rlZ X1.1 (k9 : Nat) mg).toNat + 1) k = va_up ap (rlZ X1.1 (k9 : Nat) mg).toNat (ap (rlZ X1.1 (k9 : Nat) mg).toNat + 1) k := fun k hk => by
            by_cases e : k = (rlZ X1.1 (k9 : Nat) mg).toNat
            · rw [← e, lk_eq, lk_eq, hap k hk]
            · rw [lk_ne e rfl, lk_ne e rfl]; exact hap k hk
          have eT : T2.1.length = (rwX X1.1 k9 (rlZ X1.1 (k9 : Nat) mg)).length := by rw [hT2]
          exact AW.loc (sS rfl (sS rfl (sS rfl (sZ rfl (by omega) (sN sE))))) (ih (i + 1) Q P T2 (va_up ap (rlZ X1.1 (k9 : Nat) mg).toNat (ap (rlZ X1.1 (k9 : Nat) mg).toNat + 1)) (va_up a0 (rlZ X1.1 (k9 : Nat) mg).toNat (a0 (rlZ X1.1 (k9 : Nat) mg).toNat + 1)) (max pk ((T2.1.length : Nat) : Int)) _ (by omega) (by omega) ⟨hPQ2, lk_eq, hE22.keep (lk_ne (by omega) rfl) (lk_ne (by omega) rfl) (lk_ne (by omega) rfl) (lk_ne (by omega) rfl), ⟨T3, hE23.keep (lk_ne (by omega) rfl) (lk_ne (by omega) rfl) (lk_ne (by omega) rfl) (lk_ne (by omega) rfl)⟩, lk_ne (by omega) h322⟩ (by rw [hT2]; exact XG_rw hXG hrc hle) hap2 (by omega) (by rw [hrun, show 600 - i = (600 - (i + 1)) + 1 by omega, mrun_step hk9, if_neg (by omega), eT, hT2]) (fun k n0 => lk_ne (by omega) ((hf2 k n0).trans (hf0 k n0))))
        · refine A_iconst (q := 54) X dX2_work_53 rfl ?_
          have hbig : 300 < (rwX X1.1 k9 (rlZ X1.1 (k9 : Nat) mg)).length := RsX_1 hx2 (by omega)
          exact A_zreturn X dX2_work_54 (by decide) ⟨zb0 (by rw [hrun, show 600 - i = (600 - (i + 1)) + 1 by omega, mrun_step hk9, if_pos hbig]; decide), ⟨_, _, _, _, _, hM2, fun r hr => by rw [hrun, show 600 - i = (600 - (i + 1)) + 1 by omega, mrun_step hk9, if_pos hbig] at hr; cases hr⟩, fun k n0 => (hf2 k n0).trans (hf0 k n0)⟩
      · refine A_iconst (q := 29) X dX2_work_28 rfl ?_
        exact A_zreturn X dX2_work_29 (by decide) ⟨zb1 (by rw [hrun, mrun_stop (by omega)]; rfl), ⟨P, Q, X1, ap, pk, hM, fun r hr => by rw [hrun, mrun_stop (by omega)] at hr; cases hr; exact ⟨hap, rfl⟩⟩, hf0⟩
set_option maxRecDepth 100000 in
set_option maxHeartbeats 4000000 in
theorem c_X2_work {l : Launch} {G : Gm} {c : HP} {P Q t ta : Nat} {T0 X1 : List Int × Int} {pk : Int} {ap : Nat → Int} {mg : Prop} {dm : Decidable mg} (hG : injG G) (hN : G.2.1 = 72) (hM : Mc G c P Q X1 ap pk) (hT : Tm G c t ta T0) (hgd : Gd T0.1) (x1 : t < 11) (x2 : ta < 11) : AMet l G yX2_work cX2_work 5 ((some .boolean)) (rmR 4 118) [.ref (G.1 23), .ref (G.1 t), .int (zI (if mg then 1 else 0 : Int))] c (Qi (fun v c' => v = zI (if (mrun mg 600 T0.1 (fun _ => 0) (T0.1.length : Nat)).isSome = true then 1 else 0) ∧ (∃ P' Q' X' ap' pk', Mc G c' P' Q' X' ap' pk' ∧ ∀ r, mrun mg 600 T0.1 (fun _ => 0) (T0.1.length : Nat) = some r → (∀ k, k < 5 → r.1 k = ap' k) ∧ r.2 = pk') ∧ (∀ k, k < 23 ∨ 32 < k → c' k = c k))) := by
  refine AMet.of (vl := [some (.ref (G.1 23)), some (.ref (G.1 t)), some (.int (zI (if mg then 1 else 0 : Int)))]) (by decide) hG (Nat.le_of_ble_eq_true rfl) rfl ?_
  intro K X
  have X : Fx l G K cX2_work 5 RX2 ((some .boolean)) (rmR 4 118) := X
  have hlen := hT.len
  refine A_aload_n (q := 1) X dX2_work_0 rfl rfl ?_
  refine A_aload_n (q := 2) X dX2_work_1 rfl rfl ?_
  refine A_V1v (q := 5) X (c_X2_start hG hN hM hT hgd x1 x2) mX2_start kX2_29 dX2_work_2 (by omega) hM.2.1 rfl (by decide) (Nat.le_of_ble_eq_true rfl) rfl (fun cq_2 hq_1 => ?_)
  obtain ⟨P2, Q2, ap2, hM2, hap2, hf2⟩ := hq_1
  refine A_iconst (q := 6) X dX2_work_5 rfl ?_
  refine A_istore_n (q := 7) X dX2_work_6 (by decide) (okP_s rfl rfl) rfl ?_
  exact AW.loc (sS rfl (sS rfl (sS rfl (sZ rfl (by omega) (sN sE))))) (lp_X2_work (dm := dm) X hG hN _ 0 P2 Q2 (T0.1, 0) ap2 (fun _ => 0) ((T0.1.length : Nat) : Int) _ (Nat.lt_succ_self _) (Nat.zero_le _) hM2 hgd.xg (fun k hk => (hap2 k hk).symm) (by omega) (by rw [Nat.sub_zero]) hf2)
