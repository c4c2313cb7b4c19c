/-! THE CLASS: scripts and random reductions -/
def lcZ (x y : Int64) : Int := if x > y then 1 else if x = y then 0 else -1
theorem lg_zI (x y : Int64) : lg_cmp x y = zI (lcZ x y) := by
  unfold lg_cmp lcZ
  split
  · rfl
  · split
    · rfl
    · rfl
theorem lcZ_rg (x y : Int64) : -1 ≤ lcZ x y ∧ lcZ x y ≤ 1 := by
  unfold lcZ
  split
  · omega
  · split <;> omega
theorem lcZ_lt (x y : Int64) : lcZ x y < 0 ↔ x < y := by
  rw [← lg_cmp_lt, lg_zI, zI_0, zI_lt (by have := lcZ_rg x y; unfold rg; omega) (by decide)]
theorem lcZ_eq (x y : Int64) : lcZ x y = 0 ↔ x = y := by
  rw [← lg_cmp_eq, lg_zI, zI_0, zI_eq (by have := lcZ_rg x y; unfold rg; omega) (by decide)]
theorem lN_i32 (y : Nat) : (lN y).toInt32 = zI ((y : Nat) : Int) := by
  rw [← zI_nI]
  exact Int64.toInt32_ofNat'
theorem grp_lt {m : Nat} (hm : m < 2 ^ 63) (r : Nat) : m / 1000 ^ r < 2 ^ 63 := Nat.lt_of_le_of_lt (Nat.div_le_self _ _) hm
theorem grp_dv {m : Nat} (hm : m < 2 ^ 63) (r : Nat) : lN (m / 1000 ^ r) / 1000 = lN (m / 1000 ^ (r + 1)) := by
  show lN (m / 1000 ^ r) / lN 1000 = _
  rw [pk_lDiv (grp_lt hm r) (by decide) (by decide), Nat.div_div_eq_div_mul, ← Nat.pow_succ]
theorem grp_i32 {m : Nat} (hm : m < 2 ^ 63) (r : Nat) : (lN (m / 1000 ^ r) - lN (m / 1000 ^ r) / 1000 * 1000).toInt32 = zI ((m / 1000 ^ r % 1000 : Nat) : Int) := by
  have e : lN (m / 1000 ^ r) - lN (m / 1000 ^ r) / 1000 * 1000 = lN (m / 1000 ^ r % 1000) := pk_lRem (b := 1000) (grp_lt hm r) (by decide) (by decide)
  rw [e, lN_i32]
abbrev cmdP (g : Int) (l : List Int) : Prop := (g / 100 = 1 ∧ g / 10 % 10 = 0 ∧ (runT (g % 10) 1 l).2 = 1) ∨ (g / 100 = 2 ∧ ((l.length : Nat) : Int) = g % 100) ∨ (g / 100 = 3 ∧ ((cntP (rx l) l.length : Nat) : Int) = g % 100) ∨ (g / 100 = 4 ∧ g / 10 % 10 < 4 ∧ (((runT (g / 10 % 10) 9 l).2 : Nat) : Int) = g % 10) ∨ (g / 100 = 5 ∧ g = 500 ∧ l.length < 200)
def cmdL (g : Int) (l : List Int) : List Int := if g / 100 = 1 ∧ g / 10 % 10 = 0 then (runT (g % 10) 1 l).1 else if g = 500 ∧ l.length < 200 then 1001 :: l else l
theorem Gd_cmd {l : List Int} (g : Int) (h : Gd l) : Gd (cmdL g l) := by
  unfold cmdL
  split
  · exact Gd_run _ _ _ h
  · split
    · exact Gd_abs h (by omega)
    · exact h
def scr (m n : Nat) : Nat → List Int → Int
  | 0, _ => -9
  | r + 1, l => if cmdP ((m / 1000 ^ r % 1000 : Nat) : Int) l then scr m n r (cmdL ((m / 1000 ^ r % 1000 : Nat) : Int) l) else ((n : Nat) : Int) - (((r + 1 : Nat)) : Int)
theorem scr_yes {m n r g : Nat} {l : List Int} (e : m / 1000 ^ r % 1000 = g) (h : cmdP ((g : Nat) : Int) l) : scr m n (r + 1) l = scr m n r (cmdL ((g : Nat) : Int) l) := by
  subst e
  exact if_pos h
theorem scr_no {m n r g : Nat} {l : List Int} (e : m / 1000 ^ r % 1000 = g) (h : ¬ cmdP ((g : Nat) : Int) l) : scr m n (r + 1) l = ((n : Nat) : Int) - (((r + 1 : Nat)) : Int) := by
  subst e
  exact if_neg h
def fScript (n : Int) (q : Int64) (S : SS) : Int × SS := if (1 ≤ n ∧ n ≤ 4) ∧ ¬ q < 0 ∧ q.toInt.toNat / 1000 ^ n.toNat = 0 then (scr q.toInt.toNat n.toNat n.toNat S.1, S) else (-2, S)
theorem fScr_n {n : Int} {q : Int64} {S : SS} (h : ¬ (1 ≤ n ∧ n ≤ 4)) : fScript n q S = (-2, S) := if_neg (fun z => h z.1)
theorem fScr_q {n : Int} {q : Int64} {S : SS} (h : q < 0) : fScript n q S = (-2, S) := if_neg (fun z => z.2.1 h)
theorem lN_nn {m : Nat} (hm : m < 2 ^ 63) : (lN m).toInt.toNat = m := by rw [pk_lT hm]; rfl
theorem fScr_m {n m : Nat} {S : SS} (hm : m < 2 ^ 63) (h : ¬ m / 1000 ^ n = 0) : fScript ((n : Nat) : Int) (lN m) S = (-2, S) := if_neg (fun z => h (by have := z.2.2; rw [lN_nn hm] at this; exact this))
theorem fScr_y {n m : Nat} {S : SS} (hn : 1 ≤ n ∧ n ≤ 4) (hm : m < 2 ^ 63) (h : m / 1000 ^ n = 0) : fScript ((n : Nat) : Int) (lN m) S = (scr m n n S.1, S) := by
  unfold fScript
  rw [if_pos ⟨by omega, fun z => by have := (pk_lLT hm (show 0 < 2 ^ 63 by decide)).mp z; omega, by rw [lN_nn hm]; exact h⟩, lN_nn hm]
  rfl
def rnd (sd : Int64) : Int64 := sd * 6364136223846793005 + 1442695040888963407
def rv (sd : Int64) : Int32 := ((sd.toUInt64 >>> ((zI 33).toInt64.toUInt64 &&& Int64.toUInt64 63)).toInt64).toInt32
def rvN (sd : Int64) : Nat := sd.toUInt64.toNat / 2 ^ 33
theorem rvN_lt (sd : Int64) : rvN sd < 2147483648 := by
  have := sd.toUInt64.toNat_lt
  unfold rvN
  omega
theorem rv_eq (sd : Int64) : rv sd = zI ((rvN sd : Nat) : Int) := by
  have e : (sd.toUInt64 >>> ((zI 33).toInt64.toUInt64 &&& Int64.toUInt64 63)).toInt64 = lN (rvN sd) := by
    have e1 : sd.toUInt64 >>> ((zI 33).toInt64.toUInt64 &&& Int64.toUInt64 63) = UInt64.ofNat (rvN sd) := by
      apply UInt64.toNat_inj.1
      rw [UInt64.toNat_shiftRight]
      have e2 : ((zI 33).toInt64.toUInt64 &&& Int64.toUInt64 63).toNat % 64 = 33 := by decide
      have e3 : (UInt64.ofNat (rvN sd)).toNat = rvN sd := Nat.mod_eq_of_lt (by have := rvN_lt sd; omega)
      rw [e2, e3, Nat.shiftRight_eq_div_pow]
      rfl
    rw [e1]
    rfl
  unfold rv
  rw [e, lN_i32]
def nthF (P : Nat → Prop) [DecidablePred P] (m : Nat) : Nat → Nat
  | 0 => 0
  | n + 1 => if P n ∧ cntP P n = m then n else nthF P m n
theorem nthF_eq {P : Nat → Prop} [DecidablePred P] {m k : Nat} (h1 : P k) (h2 : cntP P k = m) : ∀ {n : Nat}, k < n → nthF P m n = k
  | 0, h => absurd h (Nat.not_lt_zero _)
  | n + 1, h => by
    unfold nthF
    by_cases e : P n ∧ cntP P n = m
    · rw [if_pos e]
      exact cntP_one e.1 h1 (e.2.trans h2.symm)
    · rw [if_neg e]
      exact nthF_eq h1 h2 (by
        rcases Nat.lt_or_ge k n with q | q
        · exact q
        · exfalso
          have : k = n := by omega
          subst this
          exact e ⟨h1, h2⟩)
def rdT (sd : Int64) (l : List Int) : List Int := if 0 < cntP (rx l) l.length then (ctO l ((nthF (rx l) (rvN sd % cntP (rx l) l.length) l.length : Nat) : Int)).getD l else l
theorem Gd_rd {l : List Int} (sd : Int64) (h : Gd l) : Gd (rdT sd l) := by
  unfold rdT
  split
  · cases e : ctO l ((nthF (rx l) (rvN sd % cntP (rx l) l.length) l.length : Nat) : Int) with
    | none => exact h
    | some l' => exact Gd_ctO h e
  · exact h
def rdR : Nat → Int64 → List Int → Int × Int64
  | 0, sd, _ => (0, sd)
  | r + 1, sd, l => ((((rdT (rnd sd) l).length : Nat) : Int) + (rdR r (rnd sd) (rdT (rnd sd) l)).1, (rdR r (rnd sd) (rdT (rnd sd) l)).2)
def fRandom (n : Int) (S : SS) : Int × SS := if 1 ≤ n ∧ n ≤ 30 then ((rdR n.toNat S.2.2.2.2.2.2 S.1).1, sdS S (rdR n.toNat S.2.2.2.2.2.2 S.1).2) else (-2, S)
set_option maxRecDepth 100000 in
set_option maxHeartbeats 4000000 in
theorem lp_X8_withoutLowGroups {l : Launch} {G : Gm} {K : Cx} {c : HP} {m nq : Nat} (X : Fx l G K cX8_withoutLowGroups 6 RX8 ((some .long)) (rmR 0 0)) (hm : m < 2 ^ 63) (hn : nq ≤ 1000) : ∀ (n : Nat) (i : Nat), nq - i < n → i ≤ nq → AW G K (Ql (fun v c' => v = lN (m / 1000 ^ nq) ∧ c' = c)) 5 (mkL [some (.long (lN m)), none, some (.int (zI ((nq : Nat) : Int))), some (.long (lN (m / 1000 ^ i))), none, some (.int (zI ((i : Nat) : Int)))]) [] c := by
  intro n
  induction n with
  | zero => intro i hmz; exact absurd hmz (Nat.not_lt_zero _)
  | succ n ih =>
    intro i hmz hi
    refine A_iload (q := 7) X dX8_withoutLowGroups_5 rfl rfl ?_
    refine A_iload_n (q := 8) X dX8_withoutLowGroups_7 rfl rfl ?_
    refine A_icmp_ge (q := 11) (t := 23) X dX8_withoutLowGroups_8 (by omega) (by omega) rfl rfl (fun hb8 => ?_) (fun hb8 => ?_)
    · refine A_lload_n (q := 24) X dX8_withoutLowGroups_23 rfl rfl ?_
      exact A_lreturn X dX8_withoutLowGroups_24 ⟨by rw [show i = nq by omega], rfl⟩
    · refine A_lload_n (q := 12) X dX8_withoutLowGroups_11 rfl rfl ?_
      refine A_ldc2 (q := 15) X dX8_withoutLowGroups_12 nX8_200 rfl ?_
      refine A_ldiv (q := 16) X dX8_withoutLowGroups_15 (by decide) rfl ?_
      refine A_lstore_n (q := 17) X dX8_withoutLowGroups_16 (by decide) (okP_s rfl rfl) rfl ?_
      refine A_iinc (q := 20) X dX8_withoutLowGroups_17 rfl (by decide) (okP_n rfl) rfl ?_
      refine A_goto (q := 5) X dX8_withoutLowGroups_20 rfl ?_
      exact AW.loc (sS rfl (sN (sS rfl (sS (congrArg (fun z => some (Value.long z)) (grp_dv hm i)) (sN (sZ rfl (by omega) sE)))))) (ih (i + 1) (by omega) (by omega))
set_option maxRecDepth 100000 in
set_option maxHeartbeats 4000000 in
theorem c_X8_withoutLowGroups {l : Launch} {G : Gm} {c : HP} {m nq : Nat} (hG : injG G) (hm : m < 2 ^ 63) (hn : nq ≤ 1000) : AMet l G yX8_withoutLowGroups cX8_withoutLowGroups 6 ((some .long)) (rmR 0 0) [.long (lN m), .int (zI ((nq : Nat) : Int))] c (Ql (fun v c' => v = lN (m / 1000 ^ nq) ∧ c' = c)) := by
  refine AMet.of (vl := [some (.long (lN m)), none, some (.int (zI ((nq : Nat) : Int)))]) (by decide) hG (Nat.le_of_ble_eq_true rfl) rfl ?_
  intro K X
  have X : Fx l G K cX8_withoutLowGroups 6 RX8 ((some .long)) (rmR 0 0) := X
  refine A_lload_n (q := 1) X dX8_withoutLowGroups_0 rfl rfl ?_
  refine A_lstore_n (q := 2) X dX8_withoutLowGroups_1 (by decide) (okP_s rfl rfl) rfl ?_
  refine A_iconst (q := 3) X dX8_withoutLowGroups_2 rfl ?_
  refine A_istore (q := 5) X dX8_withoutLowGroups_3 (by decide) (okP_n rfl) rfl ?_
  exact AW.loc (sS rfl (sN (sS rfl (sS (congrArg (fun z => some (Value.long (lN z))) (show m = m / 1000 ^ 0 by rw [Nat.pow_zero, Nat.div_one])) (sN (sZ rfl (by omega) sE)))))) (lp_X8_withoutLowGroups X hm hn _ 0 (Nat.lt_succ_self _) (Nat.zero_le _))
set_option maxRecDepth 100000 in
set_option maxHeartbeats 4000000 in
theorem c_X8_commandSucceeds {l : Launch} {G : Gm} {c : HP} {T3 T5 : List Int × Int} {sd : Int64} {g : Nat} (hG : injG G) (hN : G.2.1 = 72) (h0 : c 0 = .inr (8, [.ref (G.1 1), .ref (G.1 3), .ref (G.1 5), .ref (G.1 7), .ref (G.1 9), .ref (G.1 11), .ref (G.1 14), .ref (G.1 23), .ref (G.1 33), .ref (G.1 36), .ref (G.1 38), .long sd])) (hT3 : Tm G c 3 4 T3) (z3 : T3.2 = 0) (hg3 : Gd T3.1) (hT5 : Tm G c 5 6 T5) (hRd : Rd G c) (hg : g < 1000) : AMet l G yX8_commandSucceeds cX8_commandSucceeds 4 ((some .boolean)) (rmR 5 130) [.ref (G.1 0), .int (zI ((g : Nat) : Int))] c (Qi (fun v c' => v = zI (if cmdP ((g : Nat) : Int) T3.1 then 1 else 0) ∧ Tm G c' 3 4 (cmdL ((g : Nat) : Int) T3.1, 0) ∧ (∃ T, Tm G c' 5 6 T) ∧ Rd G c' ∧ (∀ k, k < 14 ∨ 22 < k → k ≠ 3 → k ≠ 4 → k ≠ 5 → k ≠ 6 → c' k = c k))) := by
  refine AMet.of (vl := [some (.ref (G.1 0)), some (.int (zI ((g : Nat) : Int)))]) (by decide) hG (Nat.le_of_ble_eq_true rfl) rfl ?_
  intro K X
  have X : Fx l G K cX8_commandSucceeds 4 RX8 ((some .boolean)) (rmR 5 130) := X
  have hl3 := hT3.len
  have hcn := cntP_le (rx T3.1) T3.1.length
  refine A_iload_n (q := 1) X dX8_commandSucceeds_0 rfl rfl ?_
  refine A_bipush (q := 3) X dX8_commandSucceeds_1 (by decide) rfl ?_
  refine A_idiv (q := 4) X dX8_commandSucceeds_3 (by omega) (by omega) (by decide) (by decide) rfl ?_
  refine A_bipush (q := 6) X dX8_commandSucceeds_4 (by decide) rfl ?_
  refine A_irem (q := 7) X dX8_commandSucceeds_6 (by omega) (by omega) (by decide) (by decide) rfl ?_
  refine A_istore_n (q := 8) X dX8_commandSucceeds_7 (by decide) (okP_s rfl rfl) rfl ?_
  refine A_iload_n (q := 9) X dX8_commandSucceeds_8 rfl rfl ?_
  refine A_bipush (q := 11) X dX8_commandSucceeds_9 (by decide) rfl ?_
  refine A_irem (q := 12) X dX8_commandSucceeds_11 (by omega) (by omega) (by decide) (by decide) rfl ?_
  refine A_istore_n (q := 13) X dX8_commandSucceeds_12 (by decide) (okP_s rfl rfl) rfl ?_
  refine A_iload_n (q := 14) X dX8_commandSucceeds_13 rfl rfl ?_
  refine A_bipush (q := 16) X dX8_commandSucceeds_14 (by decide) rfl ?_
  refine A_idiv (q := 17) X dX8_commandSucceeds_16 (by omega) (by omega) (by decide) (by decide) rfl ?_
  by_cases e17_1 : (((g : Nat) : Int) / 100) = 1
  · refine A_tableIn (q := 52) (off := 35) X dX8_commandSucceeds_17 (by omega) (by omega) (by omega) (by rw [e17_1]; rfl) rfl ?_
    refine A_iload_n (q := 53) X dX8_commandSucceeds_52 rfl rfl ?_
    refine A_if_ne (q := 56) (t := 77) X dX8_commandSucceeds_53 (by omega) rfl rfl (fun hb53 => ?_) (fun hb53 => ?_)
    · refine A_iconst (q := 78) X dX8_commandSucceeds_77 rfl ?_
      have e9 : (cmdL ((g : Nat) : Int) T3.1, (0 : Int)) = T3 := Prod.ext (by show cmdL _ _ = _; unfold cmdL; rw [if_neg (by omega), if_neg (by omega)]) z3.symm
      exact A_zreturn X dX8_commandSucceeds_78 (by decide) ⟨zb0 (by omega), by rw [e9]; exact hT3, ⟨_, hT5⟩, hRd, (fun k n0 n1 n2 n3 n4 => rfl)⟩
    · refine A_aload_n (q := 57) X dX8_commandSucceeds_56 rfl rfl ?_
      refine A_getf (q := 60) X fX8_38 dX8_commandSucceeds_57 (by omega) h0 rfl rfl ?_
      refine A_aload_n (q := 61) X dX8_commandSucceeds_60 rfl rfl ?_
      refine A_getf (q := 64) X fX8_16 dX8_commandSucceeds_61 (by omega) h0 rfl rfl ?_
      refine A_iload_n (q := 65) X dX8_commandSucceeds_64 rfl rfl ?_
      refine A_iconst (q := 66) X dX8_commandSucceeds_65 rfl ?_
      refine A_V3i (q := 69) X (c_X5_perform (n0 := 1) hG hN (by omega) (by omega) (by omega) (by omega) hRd hT3 z3 hg3) mX5_perform kX8_138 dX8_commandSucceeds_66 (by omega) hRd.1 rfl (by decide) (Nat.le_of_ble_eq_true rfl) rfl (fun vq_3 cq_2 hq_1 => ?_)
      obtain ⟨rfl, hT_4, hRd_5, hf_6⟩ := hq_1
      have hrl := runT_le (((g : Nat) : Int) % 10) 1 T3.1
      refine A_iconst (q := 70) X dX8_commandSucceeds_69 rfl ?_
      refine A_icmp_ne (q := 73) (t := 77) X dX8_commandSucceeds_70 (by omega) (by decide) rfl rfl (fun hb70 => ?_) (fun hb70 => ?_)
      · refine A_iconst (q := 78) X dX8_commandSucceeds_77 rfl ?_
        have e9 : (cmdL ((g : Nat) : Int) T3.1, (0 : Int)) = ((runT (((g : Nat) : Int) % 10) 1 T3.1).1, (0 : Int)) := by unfold cmdL; rw [if_pos (by omega)]
        exact A_zreturn X dX8_commandSucceeds_78 (by decide) ⟨zb0 (by omega), by rw [e9]; exact hT_4, ⟨_, (hT5.keep ((hf_6 5 (by omega) (by omega) (by omega)).trans rfl) ((hf_6 6 (by omega) (by omega) (by omega)).trans rfl))⟩, hRd_5, (fun k n0 n1 n2 n3 n4 => ((hf_6 k (by omega) (by omega) (by omega)).trans rfl))⟩
      · refine A_iconst (q := 74) X dX8_commandSucceeds_73 rfl ?_
        refine A_goto (q := 78) X dX8_commandSucceeds_74 rfl ?_
        have e9 : (cmdL ((g : Nat) : Int) T3.1, (0 : Int)) = ((runT (((g : Nat) : Int) % 10) 1 T3.1).1, (0 : Int)) := by unfold cmdL; rw [if_pos (by omega)]
        exact A_zreturn X dX8_commandSucceeds_78 (by decide) ⟨zb1 (by omega), by rw [e9]; exact hT_4, ⟨_, (hT5.keep ((hf_6 5 (by omega) (by omega) (by omega)).trans rfl) ((hf_6 6 (by omega) (by omega) (by omega)).trans rfl))⟩, hRd_5, (fun k n0 n1 n2 n3 n4 => ((hf_6 k (by omega) (by omega) (by omega)).trans rfl))⟩
  · skip
    by_cases e17_2 : (((g : Nat) : Int) / 100) = 2
    · refine A_tableIn (q := 79) (off := 62) X dX8_commandSucceeds_17 (by omega) (by omega) (by omega) (by rw [e17_2]; rfl) rfl ?_
      refine A_aload_n (q := 80) X dX8_commandSucceeds_79 rfl rfl ?_
      refine A_getf (q := 83) X fX8_16 dX8_commandSucceeds_80 (by omega) h0 rfl rfl ?_
      refine A_V0i (q := 86) X (c_X6_length hG hT3) mX6_length kX8_100 dX8_commandSucceeds_83 (by omega) hT3.cell rfl (by decide) (Nat.le_of_ble_eq_true rfl) rfl (fun vq_9 cq_8 hq_7 => ?_)
      obtain ⟨rfl, hq_7⟩ := hq_7
      obtain rfl := hq_7.symm
      refine A_iload_n (q := 87) X dX8_commandSucceeds_86 rfl rfl ?_
      refine A_bipush (q := 89) X dX8_commandSucceeds_87 (by decide) rfl ?_
      refine A_irem (q := 90) X dX8_commandSucceeds_89 (by omega) (by omega) (by decide) (by decide) rfl ?_
      refine A_icmp_ne (q := 93) (t := 97) X dX8_commandSucceeds_90 (by omega) (by omega) rfl rfl (fun hb90 => ?_) (fun hb90 => ?_)
      · refine A_iconst (q := 98) X dX8_commandSucceeds_97 rfl ?_
        have e9 : (cmdL ((g : Nat) : Int) T3.1, (0 : Int)) = T3 := Prod.ext (by show cmdL _ _ = _; unfold cmdL; rw [if_neg (by omega), if_neg (by omega)]) z3.symm
        exact A_zreturn X dX8_commandSucceeds_98 (by decide) ⟨zb0 (by omega), by rw [e9]; exact hT3, ⟨_, hT5⟩, hRd, (fun k n0 n1 n2 n3 n4 => rfl)⟩
      · refine A_iconst (q := 94) X dX8_commandSucceeds_93 rfl ?_
        refine A_goto (q := 98) X dX8_commandSucceeds_94 rfl ?_
        have e9 : (cmdL ((g : Nat) : Int) T3.1, (0 : Int)) = T3 := Prod.ext (by show cmdL _ _ = _; unfold cmdL; rw [if_neg (by omega), if_neg (by omega)]) z3.symm
        exact A_zreturn X dX8_commandSucceeds_98 (by decide) ⟨zb1 (by omega), by rw [e9]; exact hT3, ⟨_, hT5⟩, hRd, (fun k n0 n1 n2 n3 n4 => rfl)⟩
    · skip
      by_cases e17_3 : (((g : Nat) : Int) / 100) = 3
      · refine A_tableIn (q := 99) (off := 82) X dX8_commandSucceeds_17 (by omega) (by omega) (by omega) (by rw [e17_3]; rfl) rfl ?_
        refine A_aload_n (q := 100) X dX8_commandSucceeds_99 rfl rfl ?_
        refine A_getf (q := 103) X fX8_16 dX8_commandSucceeds_100 (by omega) h0 rfl rfl ?_
        refine A_S1i (q := 106) X (c_X5_countRedexes hG hT3 hg3) mX5_countRedexes kX8_114 dX8_commandSucceeds_103 (by decide) (Nat.le_of_ble_eq_true rfl) rfl (fun vq_12 cq_11 hq_10 => ?_)
        obtain ⟨rfl, hq_10⟩ := hq_10
        obtain rfl := hq_10.symm
        refine A_iload_n (q := 107) X dX8_commandSucceeds_106 rfl rfl ?_
        refine A_bipush (q := 109) X dX8_commandSucceeds_107 (by decide) rfl ?_
        refine A_irem (q := 110) X dX8_commandSucceeds_109 (by omega) (by omega) (by decide) (by decide) rfl ?_
        refine A_icmp_ne (q := 113) (t := 117) X dX8_commandSucceeds_110 (by omega) (by omega) rfl rfl (fun hb110 => ?_) (fun hb110 => ?_)
        · refine A_iconst (q := 118) X dX8_commandSucceeds_117 rfl ?_
          have e9 : (cmdL ((g : Nat) : Int) T3.1, (0 : Int)) = T3 := Prod.ext (by show cmdL _ _ = _; unfold cmdL; rw [if_neg (by omega), if_neg (by omega)]) z3.symm
          exact A_zreturn X dX8_commandSucceeds_118 (by decide) ⟨zb0 (by omega), by rw [e9]; exact hT3, ⟨_, hT5⟩, hRd, (fun k n0 n1 n2 n3 n4 => rfl)⟩
        · refine A_iconst (q := 114) X dX8_commandSucceeds_113 rfl ?_
          refine A_goto (q := 118) X dX8_commandSucceeds_114 rfl ?_
          have e9 : (cmdL ((g : Nat) : Int) T3.1, (0 : Int)) = T3 := Prod.ext (by show cmdL _ _ = _; unfold cmdL; rw [if_neg (by omega), if_neg (by omega)]) z3.symm
          exact A_zreturn X dX8_commandSucceeds_118 (by decide) ⟨zb1 (by omega), by rw [e9]; exact hT3, ⟨_, hT5⟩, hRd, (fun k n0 n1 n2 n3 n4 => rfl)⟩
      · skip
        by_cases e17_4 : (((g : Nat) : Int) / 100) = 4
        · refine A_tableIn (q := 119) (off := 102) X dX8_commandSucceeds_17 (by omega) (by omega) (by omega) (by rw [e17_4]; rfl) rfl ?_
          refine A_aload_n (q := 120) X dX8_commandSucceeds_119 rfl rfl ?_
          refine A_getf (q := 123) X fX8_19 dX8_commandSucceeds_120 (by omega) h0 rfl rfl ?_
          refine A_aload_n (q := 124) X dX8_commandSucceeds_123 rfl rfl ?_
          refine A_getf (q := 127) X fX8_16 dX8_commandSucceeds_124 (by omega) h0 rfl rfl ?_
          refine A_V1v (q := 130) X (c_X6_copyFrom hG hT5 hT3 (by omega) (by omega) (by omega) (by omega)) mX6_copyFrom kX8_128 dX8_commandSucceeds_127 (by omega) hT5.cell rfl (by decide) (Nat.le_of_ble_eq_true rfl) rfl (fun cq_14 hq_13 => ?_)
          obtain ⟨hT_15, hf_16⟩ := hq_13
          refine A_iload_n (q := 131) X dX8_commandSucceeds_130 rfl rfl ?_
          refine A_S1i (q := 134) X (c_X8_isStrategy hG (by omega)) mX8_isStrategy kX8_118 dX8_commandSucceeds_131 (by decide) (Nat.le_of_ble_eq_true rfl) rfl (fun vq_19 cq_18 hq_17 => ?_)
          obtain ⟨rfl, hq_17⟩ := hq_17
          obtain rfl := hq_17.symm
          refine A_beq (q := 137) (t := 159) X dX8_commandSucceeds_134 rfl rfl (fun hb134 => ?_) (fun hb134 => ?_)
          · refine A_iconst (q := 160) X dX8_commandSucceeds_159 rfl ?_
            have e9 : (cmdL ((g : Nat) : Int) T3.1, (0 : Int)) = T3 := Prod.ext (by show cmdL _ _ = _; unfold cmdL; rw [if_neg (by omega), if_neg (by omega)]) z3.symm
            exact A_zreturn X dX8_commandSucceeds_160 (by decide) ⟨zb0 (by omega), by rw [e9]; exact (hT3.keep ((hf_16 3 (by omega) (by omega)).trans rfl) ((hf_16 4 (by omega) (by omega)).trans rfl)), ⟨_, hT_15⟩, (hRd.keep (fun k r0 r1 => ((hf_16 k (by omega) (by omega)).trans rfl))), (fun k n0 n1 n2 n3 n4 => ((hf_16 k (by omega) (by omega)).trans rfl))⟩
          · refine A_aload_n (q := 138) X dX8_commandSucceeds_137 rfl rfl ?_
            refine A_getf (q := 141) X fX8_38 dX8_commandSucceeds_138 (by omega) ((hf_16 _ (by omega) (by omega)).trans h0) rfl rfl ?_
            refine A_aload_n (q := 142) X dX8_commandSucceeds_141 rfl rfl ?_
            refine A_getf (q := 145) X fX8_19 dX8_commandSucceeds_142 (by omega) ((hf_16 _ (by omega) (by omega)).trans h0) rfl rfl ?_
            refine A_iload_n (q := 146) X dX8_commandSucceeds_145 rfl rfl ?_
            refine A_bipush (q := 148) X dX8_commandSucceeds_146 (by decide) rfl ?_
            refine A_V3i (q := 151) X (c_X5_perform (n0 := 9) hG hN (by omega) (by omega) (by omega) (by omega) (hRd.keep (fun k r0 r1 => ((hf_16 k (by omega) (by omega)).trans rfl))) hT_15 z3 hg3) mX5_perform kX8_138 dX8_commandSucceeds_148 (by omega) (hRd.keep (fun k r0 r1 => ((hf_16 k (by omega) (by omega)).trans rfl))).1 rfl (by decide) (Nat.le_of_ble_eq_true rfl) rfl (fun vq_22 cq_21 hq_20 => ?_)
            obtain ⟨rfl, hT_23, hRd_24, hf_25⟩ := hq_20
            have hrl := runT_le (((g : Nat) : Int) / 10 % 10) 9 T3.1
            refine A_iload_n (q := 152) X dX8_commandSucceeds_151 rfl rfl ?_
            refine A_icmp_ne (q := 155) (t := 159) X dX8_commandSucceeds_152 (by omega) (by omega) rfl rfl (fun hb152 => ?_) (fun hb152 => ?_)
            · refine A_iconst (q := 160) X dX8_commandSucceeds_159 rfl ?_
              have e9 : (cmdL ((g : Nat) : Int) T3.1, (0 : Int)) = T3 := Prod.ext (by show cmdL _ _ = _; unfold cmdL; rw [if_neg (by omega), if_neg (by omega)]) z3.symm
              exact A_zreturn X dX8_commandSucceeds_160 (by decide) ⟨zb0 (by omega), by rw [e9]; exact (hT3.keep ((hf_25 3 (by omega) (by omega) (by omega)).trans ((hf_16 3 (by omega) (by omega)).trans rfl)) ((hf_25 4 (by omega) (by omega) (by omega)).trans ((hf_16 4 (by omega) (by omega)).trans rfl))), ⟨_, hT_23⟩, hRd_24, (fun k n0 n1 n2 n3 n4 => ((hf_25 k (by omega) (by omega) (by omega)).trans ((hf_16 k (by omega) (by omega)).trans rfl)))⟩
            · refine A_iconst (q := 156) X dX8_commandSucceeds_155 rfl ?_
              refine A_goto (q := 160) X dX8_commandSucceeds_156 rfl ?_
              have e9 : (cmdL ((g : Nat) : Int) T3.1, (0 : Int)) = T3 := Prod.ext (by show cmdL _ _ = _; unfold cmdL; rw [if_neg (by omega), if_neg (by omega)]) z3.symm
              exact A_zreturn X dX8_commandSucceeds_160 (by decide) ⟨zb1 (by omega), by rw [e9]; exact (hT3.keep ((hf_25 3 (by omega) (by omega) (by omega)).trans ((hf_16 3 (by omega) (by omega)).trans rfl)) ((hf_25 4 (by omega) (by omega) (by omega)).trans ((hf_16 4 (by omega) (by omega)).trans rfl))), ⟨_, hT_23⟩, hRd_24, (fun k n0 n1 n2 n3 n4 => ((hf_25 k (by omega) (by omega) (by omega)).trans ((hf_16 k (by omega) (by omega)).trans rfl)))⟩
        · skip
          by_cases e17_5 : (((g : Nat) : Int) / 100) = 5
          · refine A_tableIn (q := 161) (off := 144) X dX8_commandSucceeds_17 (by omega) (by omega) (by omega) (by rw [e17_5]; rfl) rfl ?_
            refine A_iload_n (q := 162) X dX8_commandSucceeds_161 rfl rfl ?_
            refine A_sipush (q := 165) X dX8_commandSucceeds_162 (by decide) rfl ?_
            refine A_icmp_ne (q := 168) (t := 182) X dX8_commandSucceeds_165 (by omega) (by decide) rfl rfl (fun hb165 => ?_) (fun hb165 => ?_)
            · refine A_iconst (q := 183) X dX8_commandSucceeds_182 rfl ?_
              have e9 : (cmdL ((g : Nat) : Int) T3.1, (0 : Int)) = T3 := Prod.ext (by show cmdL _ _ = _; unfold cmdL; rw [if_neg (by omega), if_neg (by omega)]) z3.symm
              exact A_zreturn X dX8_commandSucceeds_183 (by decide) ⟨zb0 (by omega), by rw [e9]; exact hT3, ⟨_, hT5⟩, hRd, (fun k n0 n1 n2 n3 n4 => rfl)⟩
            · refine A_aload_n (q := 169) X dX8_commandSucceeds_168 rfl rfl ?_
              refine A_getf (q := 172) X fX8_16 dX8_commandSucceeds_169 (by omega) h0 rfl rfl ?_
              refine A_V0i (q := 175) X (c_X6_wrapInAbstraction hG hT3) mX6_wrapInAbstraction kX8_142 dX8_commandSucceeds_172 (by omega) hT3.cell rfl (by decide) (Nat.le_of_ble_eq_true rfl) rfl (fun vq_28 cq_27 hq_26 => ?_)
              obtain ⟨rfl, hwy, hwn, hwf⟩ := hq_26
              refine A_beq (q := 178) (t := 182) X dX8_commandSucceeds_175 rfl rfl (fun hb175 => ?_) (fun hb175 => ?_)
              · refine A_iconst (q := 183) X dX8_commandSucceeds_182 rfl ?_
                obtain rfl := (hwn (by assumption)).symm
                have e9 : (cmdL ((g : Nat) : Int) T3.1, (0 : Int)) = T3 := Prod.ext (by show cmdL _ _ = _; unfold cmdL; rw [if_neg (by omega), if_neg (by omega)]) z3.symm
                exact A_zreturn X dX8_commandSucceeds_183 (by decide) ⟨zb0 (by omega), by rw [e9]; exact hT3, ⟨_, hT5⟩, hRd, (fun k n0 n1 n2 n3 n4 => rfl)⟩
              · have hT3y := hwy (by assumption)
                refine A_iconst (q := 179) X dX8_commandSucceeds_178 rfl ?_
                refine A_goto (q := 183) X dX8_commandSucceeds_179 rfl ?_
                have e9 : (cmdL ((g : Nat) : Int) T3.1, (0 : Int)) = ((1001 :: T3.1, T3.2) : List Int × Int) := Prod.ext (by show cmdL _ _ = _; unfold cmdL; rw [if_neg (by omega), if_pos (by omega)]) z3.symm
                exact A_zreturn X dX8_commandSucceeds_183 (by decide) ⟨zb1 (by omega), by rw [e9]; exact hT3y, ⟨_, (hT5.keep ((hwf 5 (by omega) (by omega)).trans rfl) ((hwf 6 (by omega) (by omega)).trans rfl))⟩, (hRd.keep (fun k r0 r1 => ((hwf k (by omega) (by omega)).trans rfl))), (fun k n0 n1 n2 n3 n4 => ((hwf k (by omega) (by omega)).trans rfl))⟩
          · skip
            refine A_tableOut (q := 184) X dX8_commandSucceeds_17 (by omega) (by omega) rfl ?_
            refine A_iconst (q := 185) X dX8_commandSucceeds_184 rfl ?_
            have e9 : (cmdL ((g : Nat) : Int) T3.1, (0 : Int)) = T3 := Prod.ext (by show cmdL _ _ = _; unfold cmdL; rw [if_neg (by omega), if_neg (by omega)]) z3.symm
            exact A_zreturn X dX8_commandSucceeds_185 (by decide) ⟨zb0 (by omega), by rw [e9]; exact hT3, ⟨_, hT5⟩, hRd, (fun k n0 n1 n2 n3 n4 => rfl)⟩
set_option maxRecDepth 100000 in
set_option maxHeartbeats 4000000 in
theorem lp_X8_runScript {l : Launch} {G : Gm} {K : Cx} {c0 : HP} {sd : Int64} {m nq : Nat} {A : Int} (X : Fx l G K cX8_runScript 6 RX8 ((some .int)) (rmR 6 153)) (hG : injG G) (hN : G.2.1 = 72) (h00 : c0 0 = .inr (8, [.ref (G.1 1), .ref (G.1 3), .ref (G.1 5), .ref (G.1 7), .ref (G.1 9), .ref (G.1 11), .ref (G.1 14), .ref (G.1 23), .ref (G.1 33), .ref (G.1 36), .ref (G.1 38), .long sd])) (hm : m < 2 ^ 63) (hn : 1 ≤ nq ∧ nq ≤ 4) : ∀ (n : Nat) (i : Nat) (T3 : List Int × Int) (T5 : List Int × Int) (c : HP), nq - i < n → i ≤ nq → Tm G c 3 4 T3 → T3.2 = 0 → Gd T3.1 → Tm G c 5 6 T5 → Rd G c → scr m nq (nq - i) T3.1 = A → (∀ k, k < 14 ∨ 22 < k → k ≠ 3 → k ≠ 4 → k ≠ 5 → k ≠ 6 → c k = c0 k) → AW G K (Qi (fun v c' => v = zI A ∧ (∃ T, Tm G c' 3 4 T) ∧ (∃ T, Tm G c' 5 6 T) ∧ Rd G c' ∧ (∀ k, k < 14 ∨ 22 < k → k ≠ 3 → k ≠ 4 → k ≠ 5 → k ≠ 6 → c' k = c0 k))) 43 (mkL [some (.ref (G.1 0)), some (.int (zI ((nq : Nat) : Int))), some (.long (lN m)), none, some (.int (zI ((i : Nat) : Int))), none]) [] c := by
  intro n
  induction n with
  | zero => intro i T3 T5 c hmz; exact absurd hmz (Nat.not_lt_zero _)
  | succ n ih =>
    intro i T3 T5 c hmz hi hT3 z3 hg3 hT5 hRd hA hf0
    have h0 := (hf0 0 (by omega) (by omega) (by omega) (by omega) (by omega)).trans h00
    refine A_iload (q := 45) X dX8_runScript_43 rfl rfl ?_
    refine A_iload_n (q := 46) X dX8_runScript_45 rfl rfl ?_
    refine A_icmp_ge (q := 49) (t := 84) X dX8_runScript_46 (by omega) (by omega) rfl rfl (fun hb46 => ?_) (fun hb46 => ?_)
    · refine A_bipush (q := 86) X dX8_runScript_84 (by decide) rfl ?_
      exact A_ireturn X dX8_runScript_86 ⟨by rw [← hA, show nq - i = 0 by omega]; rfl, ⟨_, hT3⟩, ⟨_, hT5⟩, hRd, (fun k n0 n1 n2 n3 n4 => (hf0 k n0 n1 n2 n3 n4))⟩
    · obtain ⟨r, hr⟩ : ∃ r, nq - i = r + 1 := ⟨nq - i - 1, by omega⟩
      rw [hr] at hA
      refine A_lload_n (q := 50) X dX8_runScript_49 rfl rfl ?_
      refine A_iload_n (q := 51) X dX8_runScript_50 rfl rfl ?_
      refine A_iconst (q := 52) X dX8_runScript_51 rfl ?_
      refine A_isub (q := 53) X dX8_runScript_52 rfl ?_
      refine A_iload (q := 55) X dX8_runScript_53 rfl rfl ?_
      refine A_isub (q := 56) X dX8_runScript_55 rfl ?_
      rw [show zI ((((nq : Nat) : Int) - 1) - ((i : Nat) : Int)) = zI ((r : Nat) : Int) from congrArg zI (by omega)]
      refine A_S2l (q := 59) X (c_X8_withoutLowGroups (m := m) (nq := (r)) hG hm (by omega)) mX8_withoutLowGroups kX8_196 dX8_runScript_56 (by decide) (Nat.le_of_ble_eq_true rfl) rfl (fun vq_3 cq_2 hq_1 => ?_)
      obtain ⟨rfl, hq_1⟩ := hq_1
      obtain rfl := hq_1.symm
      refine A_ldc2 (q := 62) X dX8_runScript_59 nX8_200 rfl ?_
      refine A_lrem (q := 63) X dX8_runScript_62 (by decide) rfl ?_
      refine A_l2i (q := 64) X dX8_runScript_63 rfl ?_
      show AW G K _ _ _ (.int ((lN (m / 1000 ^ r) - lN (m / 1000 ^ r) / 1000 * 1000).toInt32) :: _) _
      rw [grp_i32 hm r]
      obtain ⟨g, hge, hg⟩ : ∃ g, m / 1000 ^ r % 1000 = g ∧ g < 1000 := ⟨_, rfl, Nat.mod_lt _ (by decide)⟩
      rw [hge]
      refine A_istore (q := 66) X dX8_runScript_64 (by decide) (okP_s rfl rfl) rfl ?_
      refine A_aload_n (q := 67) X dX8_runScript_66 rfl rfl ?_
      refine A_iload (q := 69) X dX8_runScript_67 rfl rfl ?_
      refine A_V1i (q := 72) X (c_X8_commandSucceeds hG hN h0 hT3 z3 hg3 hT5 hRd hg) mX8_commandSucceeds kX8_202 dX8_runScript_69 (by omega) h0 rfl (by decide) (Nat.le_of_ble_eq_true rfl) rfl (fun vq_6 cq_5 hq_4 => ?_)
      obtain ⟨rfl, hT3b, ⟨T5b, hT5b⟩, hRdb, hfb⟩ := hq_4
      refine A_bne (q := 75) (t := 78) X dX8_runScript_72 rfl rfl (fun hb72 => ?_) (fun hb72 => ?_)
      · refine A_iinc (q := 81) X dX8_runScript_78 rfl (by decide) (okP_n rfl) rfl ?_
        refine A_goto (q := 43) X dX8_runScript_81 rfl ?_
        exact AW.loc (sS rfl (sS rfl (sS rfl (sN (sZ rfl (by omega) (sN sE)))))) (ih (i + 1) (cmdL ((g : Nat) : Int) T3.1, 0) T5b _ (by omega) (by omega) hT3b rfl (Gd_cmd _ hg3) hT5b hRdb (by rw [show nq - (i + 1) = r by omega, ← hA]; exact (scr_yes hge hb72).symm) (fun k n0 n1 n2 n3 n4 => ((hfb k (by omega) (by omega) (by omega) (by omega) (by omega)).trans (hf0 k n0 n1 n2 n3 n4))))
      · refine A_iload (q := 77) X dX8_runScript_75 rfl rfl ?_
        exact A_ireturn X dX8_runScript_77 ⟨by rw [← hA, scr_no hge hb72]; exact congrArg zI (by omega), ⟨_, hT3b⟩, ⟨_, hT5b⟩, hRdb, (fun k n0 n1 n2 n3 n4 => ((hfb k (by omega) (by omega) (by omega) (by omega) (by omega)).trans (hf0 k n0 n1 n2 n3 n4)))⟩
set_option maxRecDepth 100000 in
set_option maxHeartbeats 4000000 in
theorem c_X8_runScript {l : Launch} {G : Gm} {c : HP} {tm x : List Int} {hs : List (List Int)} {s0 s1 : List Int} {o : List (Int × Int)} {sd : Int64} {n : Int} {q : Int64} (hG : injG G) (hnr : rg n) (hW : WX G c (tm, x, hs, s0, s1, o, sd)) : AMet l G yX8_runScript cX8_runScript 6 ((some .int)) (rmR 6 153) [.ref (G.1 0), .int (zI n), .long (q)] c (Qi (fun v c' => v = zI (fScript n q (tm, x, hs, s0, s1, o, sd)).1 ∧ WX G c' (fScript n q (tm, x, hs, s0, s1, o, sd)).2 ∧ (∀ k, 55 ≤ k → c' k = c k))) := by
  refine AMet.of (vl := [some (.ref (G.1 0)), some (.int (zI n)), some (.long (q)), none]) (by decide) hG (Nat.le_of_ble_eq_true rfl) rfl ?_
  intro K X
  have X : Fx l G K cX8_runScript 6 RX8 ((some .int)) (rmR 6 153) := X
  obtain ⟨hN, h0, ⟨T1, hT1, eT1, z1⟩, hgd, ⟨T3, hT3⟩, ⟨T5, hT5⟩, ⟨T7, hT7, eT7, z7⟩, hg7, ⟨T9, hT9, eT9, z9⟩, hg9, ⟨n11, E11, D11, hO11⟩, hRd, ⟨P0, Q0, X0, ap0, pk0, hM⟩, hH, hX, hB⟩ := hW
  dsimp only at h0 eT1 hgd eT7 hg7 eT9 hg9 hH hX hB
  subst eT1 eT7 eT9
  obtain ⟨p33, h33⟩ := hH.cell
  have hl1 := hT1.len
  have hl7 := hT7.len
  have hl9 := hT9.len
  have hxl := hX.2.1
  refine A_iload_n (q := 1) X dX8_runScript_0 rfl rfl ?_
  refine A_iconst (q := 2) X dX8_runScript_1 rfl ?_
  refine A_icmp_lt (q := 5) (t := 26) X dX8_runScript_2 (by omega) (by decide) rfl rfl (fun hb2 => ?_) (fun hb2 => ?_)
  · refine A_bipush (q := 28) X dX8_runScript_26 (by decide) rfl ?_
    have e9 : fScript n q (T1.1, x, hs, T7.1, T9.1, o, sd) = (-2, (T1.1, x, hs, T7.1, T9.1, o, sd)) := by exact fScr_n (by omega)
    exact A_ireturn X dX8_runScript_28 ⟨by rw [e9], by rw [e9]; exact ⟨hN, h0, ⟨_, hT1, rfl, z1⟩, hgd, ⟨_, hT3⟩, ⟨_, hT5⟩, ⟨_, hT7, rfl, z7⟩, hg7, ⟨_, hT9, rfl, z9⟩, hg9, ⟨_, _, _, hO11⟩, hRd, ⟨_, _, _, _, _, hM⟩, hH, hX, hB⟩, (fun k n0 => rfl)⟩
  · refine A_iload_n (q := 6) X dX8_runScript_5 rfl rfl ?_
    refine A_iconst (q := 7) X dX8_runScript_6 rfl ?_
    refine A_icmp_gt (q := 10) (t := 26) X dX8_runScript_7 (by omega) (by decide) rfl rfl (fun hb7 => ?_) (fun hb7 => ?_)
    · refine A_bipush (q := 28) X dX8_runScript_26 (by decide) rfl ?_
      have e9 : fScript n q (T1.1, x, hs, T7.1, T9.1, o, sd) = (-2, (T1.1, x, hs, T7.1, T9.1, o, sd)) := by exact fScr_n (by omega)
      exact A_ireturn X dX8_runScript_28 ⟨by rw [e9], by rw [e9]; exact ⟨hN, h0, ⟨_, hT1, rfl, z1⟩, hgd, ⟨_, hT3⟩, ⟨_, hT5⟩, ⟨_, hT7, rfl, z7⟩, hg7, ⟨_, hT9, rfl, z9⟩, hg9, ⟨_, _, _, hO11⟩, hRd, ⟨_, _, _, _, _, hM⟩, hH, hX, hB⟩, (fun k n0 => rfl)⟩
    · refine A_lload_n (q := 11) X dX8_runScript_10 rfl rfl ?_
      refine A_lconst (q := 12) (v := 0) X dX8_runScript_11 rfl rfl ?_
      refine A_lcmp (q := 13) X dX8_runScript_12 rfl ?_
      rw [lg_zI]
      have hc13 := lcZ_rg q 0
      refine A_if_lt (q := 16) (t := 26) X dX8_runScript_13 (by omega) rfl rfl (fun hb13 => ?_) (fun hb13 => ?_)
      · refine A_bipush (q := 28) X dX8_runScript_26 (by decide) rfl ?_
        have e9 : fScript n q (T1.1, x, hs, T7.1, T9.1, o, sd) = (-2, (T1.1, x, hs, T7.1, T9.1, o, sd)) := by exact fScr_q ((lcZ_lt _ _).mp hb13)
        exact A_ireturn X dX8_runScript_28 ⟨by rw [e9], by rw [e9]; exact ⟨hN, h0, ⟨_, hT1, rfl, z1⟩, hgd, ⟨_, hT3⟩, ⟨_, hT5⟩, ⟨_, hT7, rfl, z7⟩, hg7, ⟨_, hT9, rfl, z9⟩, hg9, ⟨_, _, _, hO11⟩, hRd, ⟨_, _, _, _, _, hM⟩, hH, hX, hB⟩, (fun k n0 => rfl)⟩
      · obtain ⟨m, hm, rfl⟩ := pk_lOf (fun h => hb13 ((lcZ_lt _ _).mpr h))
        obtain ⟨nn, rfl⟩ : ∃ nn : Nat, n = ((nn : Nat) : Int) := ⟨n.toNat, by omega⟩
        refine A_lload_n (q := 17) X dX8_runScript_16 rfl rfl ?_
        refine A_iload_n (q := 18) X dX8_runScript_17 rfl rfl ?_
        refine A_S2l (q := 21) X (c_X8_withoutLowGroups (m := m) (nq := (nn)) hG hm (by omega)) mX8_withoutLowGroups kX8_196 dX8_runScript_18 (by decide) (Nat.le_of_ble_eq_true rfl) rfl (fun vq_3 cq_2 hq_1 => ?_)
        obtain ⟨rfl, hq_1⟩ := hq_1
        obtain rfl := hq_1.symm
        refine A_lconst (q := 22) (v := 0) X dX8_runScript_21 rfl rfl ?_
        refine A_lcmp (q := 23) X dX8_runScript_22 rfl ?_
        rw [lg_zI]
        have hc23 := lcZ_rg (lN (m / 1000 ^ nn)) 0
        refine A_if_eq (q := 26) (t := 29) X dX8_runScript_23 (by omega) rfl rfl (fun hb23 => ?_) (fun hb23 => ?_)
        · have hmz0 : m / 1000 ^ nn = 0 := (pk_lEQ (grp_lt hm nn) (show 0 < 2 ^ 63 by decide)).mp ((lcZ_eq _ _).mp hb23)
          refine A_aload_n (q := 30) X dX8_runScript_29 rfl rfl ?_
          refine A_getf (q := 33) X fX8_16 dX8_runScript_30 (by omega) h0 rfl rfl ?_
          refine A_aload_n (q := 34) X dX8_runScript_33 rfl rfl ?_
          refine A_getf (q := 37) X fX8_10 dX8_runScript_34 (by omega) h0 rfl rfl ?_
          refine A_V1v (q := 40) X (c_X6_copyFrom hG hT3 hT1 (by omega) (by omega) (by omega) (by omega)) mX6_copyFrom kX8_128 dX8_runScript_37 (by omega) hT3.cell rfl (by decide) (Nat.le_of_ble_eq_true rfl) rfl (fun cq_5 hq_4 => ?_)
          obtain ⟨hT_6, hf_7⟩ := hq_4
          refine A_iconst (q := 41) X dX8_runScript_40 rfl ?_
          refine A_istore (q := 43) X dX8_runScript_41 (by decide) (okP_n rfl) rfl ?_
          have e9 : fScript ((nn : Nat) : Int) (lN m) (T1.1, x, hs, T7.1, T9.1, o, sd) = (scr m nn nn T1.1, (T1.1, x, hs, T7.1, T9.1, o, sd)) := fScr_y (by omega) hm hmz0
          refine AW.loc (sS rfl (sS rfl (sS rfl (sN (sZ rfl (by omega) (sN sE)))))) (AW.mono (lp_X8_runScript (nq := nn) X hG hN ((hf_7 _ (by omega) (by omega)).trans h0) hm (by omega) _ 0 T1 T5 _ (Nat.lt_succ_self _) (Nat.zero_le _) hT_6 z1 hgd (hT5.keep ((hf_7 5 (by omega) (by omega)).trans rfl) ((hf_7 6 (by omega) (by omega)).trans rfl)) (hRd.keep (fun k r0 r1 => ((hf_7 k (by omega) (by omega)).trans rfl))) rfl (fun _ _ _ _ _ _ => rfl)) ?_)
          rintro r c9 ⟨v9, hv9, rfl, ⟨T9x, hT9x⟩, ⟨T5x, hT5x⟩, hR9, hf9⟩
          exact ⟨_, hv9, by rw [e9]; rfl, by rw [e9]; exact ⟨hN, ((hf9 _ (by omega) (by omega) (by omega) (by omega) (by omega)).trans ((hf_7 _ (by omega) (by omega)).trans h0)), ⟨_, (hT1.keep ((hf9 1 (by omega) (by omega) (by omega) (by omega) (by omega)).trans ((hf_7 1 (by omega) (by omega)).trans rfl)) ((hf9 2 (by omega) (by omega) (by omega) (by omega) (by omega)).trans ((hf_7 2 (by omega) (by omega)).trans rfl))), rfl, z1⟩, hgd, ⟨_, hT9x⟩, ⟨_, hT5x⟩, ⟨_, (hT7.keep ((hf9 7 (by omega) (by omega) (by omega) (by omega) (by omega)).trans ((hf_7 7 (by omega) (by omega)).trans rfl)) ((hf9 8 (by omega) (by omega) (by omega) (by omega) (by omega)).trans ((hf_7 8 (by omega) (by omega)).trans rfl))), rfl, z7⟩, hg7, ⟨_, (hT9.keep ((hf9 9 (by omega) (by omega) (by omega) (by omega) (by omega)).trans ((hf_7 9 (by omega) (by omega)).trans rfl)) ((hf9 10 (by omega) (by omega) (by omega) (by omega) (by omega)).trans ((hf_7 10 (by omega) (by omega)).trans rfl))), rfl, z9⟩, hg9, ⟨_, _, _, (hO11.keep ((hf9 11 (by omega) (by omega) (by omega) (by omega) (by omega)).trans ((hf_7 11 (by omega) (by omega)).trans rfl)) ((hf9 12 (by omega) (by omega) (by omega) (by omega) (by omega)).trans ((hf_7 12 (by omega) (by omega)).trans rfl)) ((hf9 13 (by omega) (by omega) (by omega) (by omega) (by omega)).trans ((hf_7 13 (by omega) (by omega)).trans rfl)))⟩, hR9, ⟨_, _, _, _, _, (hM.keep (fun k r0 r1 => ((hf9 k (by omega) (by omega) (by omega) (by omega) (by omega)).trans ((hf_7 k (by omega) (by omega)).trans rfl))))⟩, (hH.keep (fun k r0 => ((hf9 k (by omega) (by omega) (by omega) (by omega) (by omega)).trans ((hf_7 k (by omega) (by omega)).trans rfl)))), (hX.keep ((hf9 36 (by omega) (by omega) (by omega) (by omega) (by omega)).trans ((hf_7 36 (by omega) (by omega)).trans rfl)) ((hf9 37 (by omega) (by omega) (by omega) (by omega) (by omega)).trans ((hf_7 37 (by omega) (by omega)).trans rfl))), (hB.keep ((hf9 38 (by omega) (by omega) (by omega) (by omega) (by omega)).trans ((hf_7 38 (by omega) (by omega)).trans rfl)) ((hf9 39 (by omega) (by omega) (by omega) (by omega) (by omega)).trans ((hf_7 39 (by omega) (by omega)).trans rfl)) ((hf9 40 (by omega) (by omega) (by omega) (by omega) (by omega)).trans ((hf_7 40 (by omega) (by omega)).trans rfl)))⟩, (fun k n0 => ((hf9 k (by omega) (by omega) (by omega) (by omega) (by omega)).trans ((hf_7 k (by omega) (by omega)).trans rfl)))⟩
        · refine A_bipush (q := 28) X dX8_runScript_26 (by decide) rfl ?_
          have e9 : fScript ((nn : Nat) : Int) (lN m) (T1.1, x, hs, T7.1, T9.1, o, sd) = (-2, (T1.1, x, hs, T7.1, T9.1, o, sd)) := by exact fScr_m hm (fun z => hb23 ((lcZ_eq _ _).mpr (congrArg lN z)))
          exact A_ireturn X dX8_runScript_28 ⟨by rw [e9], by rw [e9]; exact ⟨hN, h0, ⟨_, hT1, rfl, z1⟩, hgd, ⟨_, hT3⟩, ⟨_, hT5⟩, ⟨_, hT7, rfl, z7⟩, hg7, ⟨_, hT9, rfl, z9⟩, hg9, ⟨_, _, _, hO11⟩, hRd, ⟨_, _, _, _, _, hM⟩, hH, hX, hB⟩, (fun k n0 => rfl)⟩
set_option maxRecDepth 100000 in
set_option maxHeartbeats 4000000 in
theorem c_X8_randomStepOnCopy {l : Launch} {G : Gm} {c : HP} {T3 : List Int × Int} {sd : Int64} (hG : injG G) (hN : G.2.1 = 72) (h0 : c 0 = .inr (8, [.ref (G.1 1), .ref (G.1 3), .ref (G.1 5), .ref (G.1 7), .ref (G.1 9), .ref (G.1 11), .ref (G.1 14), .ref (G.1 23), .ref (G.1 33), .ref (G.1 36), .ref (G.1 38), .long sd])) (hT3 : Tm G c 3 4 T3) (z3 : T3.2 = 0) (hg3 : Gd T3.1) (hRd : Rd G c) : AMet l G yX8_randomStepOnCopy cX8_randomStepOnCopy 3 (none) (rmR 4 106) [.ref (G.1 0)] c (Qv (fun c' => c' 0 = .inr (8, [.ref (G.1 1), .ref (G.1 3), .ref (G.1 5), .ref (G.1 7), .ref (G.1 9), .ref (G.1 11), .ref (G.1 14), .ref (G.1 23), .ref (G.1 33), .ref (G.1 36), .ref (G.1 38), .long (rnd sd)]) ∧ Tm G c' 3 4 (rdT (rnd sd) T3.1, 0) ∧ Rd G c' ∧ (∀ k, k ≠ 0 → k < 14 ∨ 22 < k → k ≠ 3 → k ≠ 4 → c' k = c k))) := by
  refine AMet.of (vl := [some (.ref (G.1 0))]) (by decide) hG (Nat.le_of_ble_eq_true rfl) rfl ?_
  intro K X
  have X : Fx l G K cX8_randomStepOnCopy 3 RX8 (none) (rmR 4 106) := X
  have hl3 := hT3.len
  have hcn := cntP_le (rx T3.1) T3.1.length
  refine A_aload_n (q := 1) X dX8_randomStepOnCopy_0 rfl rfl ?_
  refine A_aload_n (q := 2) X dX8_randomStepOnCopy_1 rfl rfl ?_
  refine A_getf (q := 5) X fX8_70 dX8_randomStepOnCopy_2 (by omega) h0 rfl rfl ?_
  refine A_ldc2 (q := 8) X dX8_randomStepOnCopy_5 nX8_235 rfl ?_
  refine A_lmul (q := 9) X dX8_randomStepOnCopy_8 rfl ?_
  refine A_ldc2 (q := 12) X dX8_randomStepOnCopy_9 nX8_237 rfl ?_
  refine A_ladd (q := 13) X dX8_randomStepOnCopy_12 rfl ?_
  refine A_putf (q := 16) X pX8_70 dX8_randomStepOnCopy_13 (by omega) h0 (Nat.le_of_ble_eq_true rfl) rfl rfl rfl ?_
  refine A_aload_n (q := 17) X dX8_randomStepOnCopy_16 rfl rfl ?_
  refine A_getf (q := 20) X fX8_70 dX8_randomStepOnCopy_17 (by omega) lk_eq rfl rfl ?_
  refine A_bipush (q := 22) X dX8_randomStepOnCopy_20 (by decide) rfl ?_
  refine A_lushr (q := 23) X dX8_randomStepOnCopy_22 rfl ?_
  refine A_l2i (q := 24) X dX8_randomStepOnCopy_23 rfl ?_
  show AW G K _ _ _ (.int (rv (rnd sd)) :: _) _
  rw [rv_eq]
  have hrv := rvN_lt (rnd sd)
  refine A_istore_n (q := 25) X dX8_randomStepOnCopy_24 (by decide) (okP_s rfl rfl) rfl ?_
  refine A_aload_n (q := 26) X dX8_randomStepOnCopy_25 rfl rfl ?_
  refine A_getf (q := 29) X fX8_16 dX8_randomStepOnCopy_26 (by omega) lk_eq rfl rfl ?_
  refine A_S1i (q := 32) X (c_X5_countRedexes hG (hT3.keep (lk_ne (by omega) rfl) (lk_ne (by omega) rfl)) hg3) mX5_countRedexes kX8_114 dX8_randomStepOnCopy_29 (by decide) (Nat.le_of_ble_eq_true rfl) rfl (fun vq_3 cq_2 hq_1 => ?_)
  obtain ⟨rfl, hq_1⟩ := hq_1
  obtain rfl := hq_1.symm
  refine A_istore_n (q := 33) X dX8_randomStepOnCopy_32 (by decide) (okP_s rfl rfl) rfl ?_
  refine A_iload_n (q := 34) X dX8_randomStepOnCopy_33 rfl rfl ?_
  refine A_if_le (q := 37) (t := 59) X dX8_randomStepOnCopy_34 (by omega) rfl rfl (fun hb34 => ?_) (fun hb34 => ?_)
  · have e9 : (rdT (rnd sd) T3.1, (0 : Int)) = T3 := Prod.ext (by show rdT _ _ = _; unfold rdT; rw [if_neg (by omega)]) z3.symm
    exact A_return X dX8_randomStepOnCopy_59 ⟨lk_eq, by rw [e9]; exact (hT3.keep (lk_ne (by omega) rfl) (lk_ne (by omega) rfl)), (hRd.keep (fun k r0 r1 => (lk_ne (by omega) rfl))), (fun k n0 n1 n2 n3 => (lk_ne (by omega) rfl))⟩
  · refine A_aload_n (q := 38) X dX8_randomStepOnCopy_37 rfl rfl ?_
    refine A_getf (q := 41) X fX8_38 dX8_randomStepOnCopy_38 (by omega) lk_eq rfl rfl ?_
    refine A_aload_n (q := 42) X dX8_randomStepOnCopy_41 rfl rfl ?_
    refine A_getf (q := 45) X fX8_16 dX8_randomStepOnCopy_42 (by omega) lk_eq rfl rfl ?_
    refine A_aload_n (q := 46) X dX8_randomStepOnCopy_45 rfl rfl ?_
    refine A_getf (q := 49) X fX8_16 dX8_randomStepOnCopy_46 (by omega) lk_eq rfl rfl ?_
    refine A_iload_n (q := 50) X dX8_randomStepOnCopy_49 rfl rfl ?_
    refine A_iload_n (q := 51) X dX8_randomStepOnCopy_50 rfl rfl ?_
    refine A_irem (q := 52) X dX8_randomStepOnCopy_51 (by omega) (by omega) (by omega) (by omega) rfl ?_
    have hmod := Nat.mod_lt (rvN (rnd sd)) (show 0 < cntP (rx T3.1) T3.1.length by omega)
    rw [show zI ((((rvN (rnd sd)) : Nat) : Int) % (((cntP (rx T3.1) T3.1.length) : Nat) : Int)) = zI ((rvN (rnd sd) % cntP (rx T3.1) T3.1.length : Nat) : Int) from rfl]
    refine A_S2i (q := 55) X (c_X5_numberedRedex hG (hT3.keep (lk_ne (by omega) rfl) (lk_ne (by omega) rfl)) hg3 hmod) mX5_numberedRedex kX8_239 dX8_randomStepOnCopy_52 (by decide) (Nat.le_of_ble_eq_true rfl) rfl (fun vq_6 cq_5 hq_4 => ?_)
    obtain ⟨⟨kk, hk1, rfl, hk2, hk3⟩, hq_4⟩ := hq_4
    obtain rfl := hq_4.symm
    refine A_V2i (q := 58) X (c_X5_contract hG hN (hRd.keep (fun k r0 r1 => (lk_ne (by omega) rfl))) (hT3.keep (lk_ne (by omega) rfl) (lk_ne (by omega) rfl)) z3 hg3 (by omega) (by omega) (by omega)) mX5_contract kX8_131 dX8_randomStepOnCopy_55 (by omega) (hRd.keep (fun k r0 r1 => (lk_ne (by omega) rfl))).1 rfl (by decide) (Nat.le_of_ble_eq_true rfl) rfl (fun vq_9 cq_8 hq_7 => ?_)
    obtain ⟨rfl, hT_10, hRd_11, hf_12⟩ := hq_7
    refine A_pop (q := 59) X dX8_randomStepOnCopy_58 rfl rfl ?_
    have e9 : (rdT (rnd sd) T3.1, (0 : Int)) = ((ctO T3.1 ((kk : Nat) : Int)).getD T3.1, (0 : Int)) := by unfold rdT; rw [if_pos (by omega), nthF_eq hk2 hk3 hk1]
    exact A_return X dX8_randomStepOnCopy_59 ⟨((hf_12 _ (by omega) (by omega) (by omega)).trans lk_eq), by rw [e9]; exact hT_10, hRd_11, (fun k n0 n1 n2 n3 => ((hf_12 k (by omega) (by omega) (by omega)).trans (lk_ne (by omega) rfl)))⟩
set_option maxRecDepth 100000 in
set_option maxHeartbeats 4000000 in
theorem lp_X8_randomReduction {l : Launch} {G : Gm} {K : Cx} {c0 : HP} {nq : Nat} {A : Int} {B : Int64} (X : Fx l G K cX8_randomReduction 4 RX8 ((some .int)) (rmR 5 128)) (hG : injG G) (hN : G.2.1 = 72) (hn : 1 ≤ nq ∧ nq ≤ 30) : ∀ (n : Nat) (i : Nat) (a : Int) (sd : Int64) (T3 : List Int × Int) (c : HP), nq - i < n → i ≤ nq → c 0 = .inr (8, [.ref (G.1 1), .ref (G.1 3), .ref (G.1 5), .ref (G.1 7), .ref (G.1 9), .ref (G.1 11), .ref (G.1 14), .ref (G.1 23), .ref (G.1 33), .ref (G.1 36), .ref (G.1 38), .long sd]) → Tm G c 3 4 T3 → T3.2 = 0 → Gd T3.1 → Rd G c → a + (rdR (nq - i) sd T3.1).1 = A → (rdR (nq - i) sd T3.1).2 = B → (∀ k, k ≠ 0 → k < 14 ∨ 22 < k → k ≠ 3 → k ≠ 4 → c k = c0 k) → AW G K (Qi (fun v c' => v = zI A ∧ c' 0 = .inr (8, [.ref (G.1 1), .ref (G.1 3), .ref (G.1 5), .ref (G.1 7), .ref (G.1 9), .ref (G.1 11), .ref (G.1 14), .ref (G.1 23), .ref (G.1 33), .ref (G.1 36), .ref (G.1 38), .long B]) ∧ (∃ T, Tm G c' 3 4 T) ∧ Rd G c' ∧ (∀ k, k ≠ 0 → k < 14 ∨ 22 < k → k ≠ 3 → k ≠ 4 → c' k = c0 k))) 29 (mkL [some (.ref (G.1 0)), some (.int (zI ((nq : Nat) : Int))), some (.int (zI a)), some (.int (zI ((i : Nat) : Int)))]) [] c := by
  intro n
  induction n with
  | zero => intro i a sd T3 c hmz; exact absurd hmz (Nat.not_lt_zero _)
  | succ n ih =>
    intro i a sd T3 c hmz hi h0 hT3 z3 hg3 hRd hA hB hf0
    refine A_iload_n (q := 30) X dX8_randomReduction_29 rfl rfl ?_
    refine A_iload_n (q := 31) X dX8_randomReduction_30 rfl rfl ?_
    refine A_icmp_ge (q := 34) (t := 54) X dX8_randomReduction_31 (by omega) (by omega) rfl rfl (fun hb31 => ?_) (fun hb31 => ?_)
    · refine A_iload_n (q := 55) X dX8_randomReduction_54 rfl rfl ?_
      have e0 : nq - i = 0 := by omega
      rw [e0] at hA hB
      exact A_ireturn X dX8_randomReduction_55 ⟨by rw [← hA]; exact congrArg zI (Int.add_zero a).symm, by rw [← hB]; exact h0, ⟨_, hT3⟩, hRd, hf0⟩
    · obtain ⟨r, hr⟩ : ∃ r, nq - i = r + 1 := ⟨nq - i - 1, by omega⟩
      rw [hr] at hA hB
      refine A_aload_n (q := 35) X dX8_randomReduction_34 rfl rfl ?_
      refine A_V0v (q := 38) X (c_X8_randomStepOnCopy hG hN h0 hT3 z3 hg3 hRd) mX8_randomStepOnCopy kX8_215 dX8_randomReduction_35 (by omega) h0 rfl (by decide) (Nat.le_of_ble_eq_true rfl) rfl (fun cq_2 hq_1 => ?_)
      obtain ⟨h0b, hT3b, hRdb, hfb⟩ := hq_1
      have hgb := Gd_rd (rnd sd) hg3
      have hlb := hgb.1
      refine A_iload_n (q := 39) X dX8_randomReduction_38 rfl rfl ?_
      refine A_aload_n (q := 40) X dX8_randomReduction_39 rfl rfl ?_
      refine A_getf (q := 43) X fX8_16 dX8_randomReduction_40 (by omega) h0b rfl rfl ?_
      refine A_V0i (q := 46) X (c_X6_length hG hT3b) mX6_length kX8_100 dX8_randomReduction_43 (by omega) hT3b.cell rfl (by decide) (Nat.le_of_ble_eq_true rfl) rfl (fun vq_5 cq_4 hq_3 => ?_)
      obtain ⟨rfl, hq_3⟩ := hq_3
      obtain rfl := hq_3.symm
      show AW G K _ _ _ (.int (zI (((rdT (rnd sd) T3.1).length : Nat) : Int)) :: _) _
      refine A_iadd (q := 47) X dX8_randomReduction_46 rfl ?_
      refine A_istore_n (q := 48) X dX8_randomReduction_47 (by decide) (okP_s rfl rfl) rfl ?_
      refine A_iinc (q := 51) X dX8_randomReduction_48 rfl (by decide) (okP_s rfl rfl) rfl ?_
      refine A_goto (q := 29) X dX8_randomReduction_51 rfl ?_
      exact AW.loc (sS rfl (sS rfl (sZ rfl rfl (sZ rfl (by omega) sE)))) (ih (i + 1) (a + (((rdT (rnd sd) T3.1).length : Nat) : Int)) (rnd sd) (rdT (rnd sd) T3.1, 0) _ (by omega) (by omega) h0b hT3b rfl hgb hRdb (by rw [show nq - (i + 1) = r by omega, ← hA, Int.add_assoc]; rfl) (by rw [show nq - (i + 1) = r by omega, ← hB]; rfl) (fun k n0 n1 n2 n3 => (hfb k n0 n1 n2 n3).trans (hf0 k n0 n1 n2 n3)))
set_option maxRecDepth 100000 in
set_option maxHeartbeats 4000000 in
theorem c_X8_randomReduction {l : Launch} {G : Gm} {c : HP} {tm x : List Int} {hs : List (List Int)} {s0 s1 : List Int} {o : List (Int × Int)} {sd : Int64} {n : Int} (hG : injG G) (hnr : rg n) (hW : WX G c (tm, x, hs, s0, s1, o, sd)) : AMet l G yX8_randomReduction cX8_randomReduction 4 ((some .int)) (rmR 5 128) [.ref (G.1 0), .int (zI n)] c (Qi (fun v c' => v = zI (fRandom n (tm, x, hs, s0, s1, o, sd)).1 ∧ WX G c' (fRandom n (tm, x, hs, s0, s1, o, sd)).2 ∧ (∀ k, 55 ≤ k → c' k = c k))) := by
  refine AMet.of (vl := [some (.ref (G.1 0)), some (.int (zI n))]) (by decide) hG (Nat.le_of_ble_eq_true rfl) rfl ?_
  intro K X
  have X : Fx l G K cX8_randomReduction 4 RX8 ((some .int)) (rmR 5 128) := X
  obtain ⟨hN, h0, ⟨T1, hT1, eT1, z1⟩, hgd, ⟨T3, hT3⟩, ⟨T5, hT5⟩, ⟨T7, hT7, eT7, z7⟩, hg7, ⟨T9, hT9, eT9, z9⟩, hg9, ⟨n11, E11, D11, hO11⟩, hRd, ⟨P0, Q0, X0, ap0, pk0, hM⟩, hH, hX, hB⟩ := hW
  dsimp only at h0 eT1 hgd eT7 hg7 eT9 hg9 hH hX hB
  subst eT1 eT7 eT9
  obtain ⟨p33, h33⟩ := hH.cell
  have hl1 := hT1.len
  have hl7 := hT7.len
  have hl9 := hT9.len
  have hxl := hX.2.1
  refine A_iload_n (q := 1) X dX8_randomReduction_0 rfl rfl ?_
  refine A_iconst (q := 2) X dX8_randomReduction_1 rfl ?_
  refine A_icmp_lt (q := 5) (t := 11) X dX8_randomReduction_2 (by omega) (by decide) rfl rfl (fun hb2 => ?_) (fun hb2 => ?_)
  · refine A_bipush (q := 13) X dX8_randomReduction_11 (by decide) rfl ?_
    have e9 : fRandom n (T1.1, x, hs, T7.1, T9.1, o, sd) = (-2, (T1.1, x, hs, T7.1, T9.1, o, sd)) := by unfold fRandom; dsimp only; rw [if_neg (by omega)]
    exact A_ireturn X dX8_randomReduction_13 ⟨by rw [e9], by rw [e9]; exact ⟨hN, h0, ⟨_, hT1, rfl, z1⟩, hgd, ⟨_, hT3⟩, ⟨_, hT5⟩, ⟨_, hT7, rfl, z7⟩, hg7, ⟨_, hT9, rfl, z9⟩, hg9, ⟨_, _, _, hO11⟩, hRd, ⟨_, _, _, _, _, hM⟩, hH, hX, hB⟩, (fun k n0 => rfl)⟩
  · refine A_iload_n (q := 6) X dX8_randomReduction_5 rfl rfl ?_
    refine A_bipush (q := 8) X dX8_randomReduction_6 (by decide) rfl ?_
    refine A_icmp_le (q := 11) (t := 14) X dX8_randomReduction_8 (by omega) (by decide) rfl rfl (fun hb8 => ?_) (fun hb8 => ?_)
    · obtain ⟨nn, rfl⟩ : ∃ nn : Nat, n = ((nn : Nat) : Int) := ⟨n.toNat, by omega⟩
      refine A_aload_n (q := 15) X dX8_randomReduction_14 rfl rfl ?_
      refine A_getf (q := 18) X fX8_16 dX8_randomReduction_15 (by omega) h0 rfl rfl ?_
      refine A_aload_n (q := 19) X dX8_randomReduction_18 rfl rfl ?_
      refine A_getf (q := 22) X fX8_10 dX8_randomReduction_19 (by omega) h0 rfl rfl ?_
      refine A_V1v (q := 25) X (c_X6_copyFrom hG hT3 hT1 (by omega) (by omega) (by omega) (by omega)) mX6_copyFrom kX8_128 dX8_randomReduction_22 (by omega) hT3.cell rfl (by decide) (Nat.le_of_ble_eq_true rfl) rfl (fun cq_2 hq_1 => ?_)
      obtain ⟨hT_3, hf_4⟩ := hq_1
      refine A_iconst (q := 26) X dX8_randomReduction_25 rfl ?_
      refine A_istore_n (q := 27) X dX8_randomReduction_26 (by decide) (okP_s rfl rfl) rfl ?_
      refine A_iconst (q := 28) X dX8_randomReduction_27 rfl ?_
      refine A_istore_n (q := 29) X dX8_randomReduction_28 (by decide) (okP_s rfl rfl) rfl ?_
      have e9 : fRandom ((nn : Nat) : Int) (T1.1, x, hs, T7.1, T9.1, o, sd) = ((rdR nn sd T1.1).1, (T1.1, x, hs, T7.1, T9.1, o, (rdR nn sd T1.1).2)) := by unfold fRandom sdS; rw [if_pos (by omega)]; rfl
      refine AW.loc (sS rfl (sS rfl (sZ rfl rfl (sZ rfl (by omega) sE)))) (AW.mono (lp_X8_randomReduction (nq := nn) X hG hN (by omega) _ 0 0 sd T1 _ (Nat.lt_succ_self _) (Nat.zero_le _) ((hf_4 _ (by omega) (by omega)).trans h0) hT_3 z1 hgd (hRd.keep (fun k r0 r1 => ((hf_4 k (by omega) (by omega)).trans rfl))) rfl rfl (fun _ _ _ _ _ => rfl)) ?_)
      rintro r c9 ⟨v9, hv9, rfl, h09, ⟨T9x, hT9x⟩, hR9, hf9⟩
      exact ⟨_, hv9, by rw [e9]; exact congrArg zI (Int.zero_add _), by rw [e9]; exact ⟨hN, h09, ⟨_, (hT1.keep ((hf9 1 (by omega) (by omega) (by omega) (by omega)).trans ((hf_4 1 (by omega) (by omega)).trans rfl)) ((hf9 2 (by omega) (by omega) (by omega) (by omega)).trans ((hf_4 2 (by omega) (by omega)).trans rfl))), rfl, z1⟩, hgd, ⟨_, hT9x⟩, ⟨_, (hT5.keep ((hf9 5 (by omega) (by omega) (by omega) (by omega)).trans ((hf_4 5 (by omega) (by omega)).trans rfl)) ((hf9 6 (by omega) (by omega) (by omega) (by omega)).trans ((hf_4 6 (by omega) (by omega)).trans rfl)))⟩, ⟨_, (hT7.keep ((hf9 7 (by omega) (by omega) (by omega) (by omega)).trans ((hf_4 7 (by omega) (by omega)).trans rfl)) ((hf9 8 (by omega) (by omega) (by omega) (by omega)).trans ((hf_4 8 (by omega) (by omega)).trans rfl))), rfl, z7⟩, hg7, ⟨_, (hT9.keep ((hf9 9 (by omega) (by omega) (by omega) (by omega)).trans ((hf_4 9 (by omega) (by omega)).trans rfl)) ((hf9 10 (by omega) (by omega) (by omega) (by omega)).trans ((hf_4 10 (by omega) (by omega)).trans rfl))), rfl, z9⟩, hg9, ⟨_, _, _, (hO11.keep ((hf9 11 (by omega) (by omega) (by omega) (by omega)).trans ((hf_4 11 (by omega) (by omega)).trans rfl)) ((hf9 12 (by omega) (by omega) (by omega) (by omega)).trans ((hf_4 12 (by omega) (by omega)).trans rfl)) ((hf9 13 (by omega) (by omega) (by omega) (by omega)).trans ((hf_4 13 (by omega) (by omega)).trans rfl)))⟩, hR9, ⟨_, _, _, _, _, (hM.keep (fun k r0 r1 => ((hf9 k (by omega) (by omega) (by omega) (by omega)).trans ((hf_4 k (by omega) (by omega)).trans rfl))))⟩, (hH.keep (fun k r0 => ((hf9 k (by omega) (by omega) (by omega) (by omega)).trans ((hf_4 k (by omega) (by omega)).trans rfl)))), (hX.keep ((hf9 36 (by omega) (by omega) (by omega) (by omega)).trans ((hf_4 36 (by omega) (by omega)).trans rfl)) ((hf9 37 (by omega) (by omega) (by omega) (by omega)).trans ((hf_4 37 (by omega) (by omega)).trans rfl))), (hB.keep ((hf9 38 (by omega) (by omega) (by omega) (by omega)).trans ((hf_4 38 (by omega) (by omega)).trans rfl)) ((hf9 39 (by omega) (by omega) (by omega) (by omega)).trans ((hf_4 39 (by omega) (by omega)).trans rfl)) ((hf9 40 (by omega) (by omega) (by omega) (by omega)).trans ((hf_4 40 (by omega) (by omega)).trans rfl)))⟩, (fun k n0 => ((hf9 k (by omega) (by omega) (by omega) (by omega)).trans ((hf_4 k (by omega) (by omega)).trans rfl)))⟩
    · refine A_bipush (q := 13) X dX8_randomReduction_11 (by decide) rfl ?_
      have e9 : fRandom n (T1.1, x, hs, T7.1, T9.1, o, sd) = (-2, (T1.1, x, hs, T7.1, T9.1, o, sd)) := by unfold fRandom; dsimp only; rw [if_neg (by omega)]
      exact A_ireturn X dX8_randomReduction_13 ⟨by rw [e9], by rw [e9]; exact ⟨hN, h0, ⟨_, hT1, rfl, z1⟩, hgd, ⟨_, hT3⟩, ⟨_, hT5⟩, ⟨_, hT7, rfl, z7⟩, hg7, ⟨_, hT9, rfl, z9⟩, hg9, ⟨_, _, _, hO11⟩, hRd, ⟨_, _, _, _, _, hM⟩, hH, hX, hB⟩, (fun k n0 => rfl)⟩
