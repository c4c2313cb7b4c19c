/-! THE MODEL: the redex of a number -/
set_option maxRecDepth 100000 in
set_option maxHeartbeats 4000000 in
theorem lp_X9_redexNumber {l : Launch} {G : Gm} {K : Cx} {c : HP} {a : Nat} {l0 : List Int} {F : Nat → Int} {m : Nat} (X : Fx l G K cX9_redexNumber 4 RX9 ((some .int)) (rmR 1 21)) (hG : injG G) (ha0 : a < G.2.1) (hl0 : l0.length ≤ 200) (ha : c a = aI G 201 F) (hS : F 200 = ((l0.length : Nat) : Int)) (hF : ∀ k, k < l0.length → F k = l0.getD k 0) (hgd : Gd l0) (hpos : 1 ≤ l0.length) (hm : m < cntP (rx l0) l0.length) (hm2 : m ≤ 200) : ∀ (n : Nat) (i : Nat), 1000 - i < n → cntP (rx l0) i ≤ m → AW G K (Qi (fun v c' => (∃ k : Nat, k < l0.length ∧ v = zI (k : Nat) ∧ rx l0 k ∧ cntP (rx l0) k = m) ∧ c' = c)) 4 (mkL [some (.ref (G.1 a)), some (.int (zI ((m : Nat) : Int))), some (.int (zI (((m - cntP (rx l0) i) : Nat) : Int))), some (.int (zI ((i : Nat) : Int)))]) [] c := by
  intro n
  induction n with
  | zero => intro i hmz; exact absurd hmz (Nat.not_lt_zero _)
  | succ n ih =>
    intro i hmz hc
    have hil : i + 1 < l0.length := by have h1 := cnt_last l0; rcases Nat.lt_or_ge (i + 1) l0.length with q | q; exact q; exact absurd (cntP_mono (P := rx l0) (show l0.length - 1 ≤ i by omega)) (by omega)
    refine A_aload_n (q := 5) X dX9_redexNumber_4 rfl rfl ?_
    refine A_iload_n (q := 6) X dX9_redexNumber_5 rfl rfl ?_
    refine A_S2i (q := 9) X (c_X9_isRedex (p := (i)) hG ⟨ha0, hl0, F, ha, hS, hF⟩ hgd (by omega)) mX9_isRedex kX9_72 dX9_redexNumber_6 (by decide) (Nat.le_of_ble_eq_true rfl) rfl (fun vq_3 cq_2 hq_1 => ?_)
    obtain ⟨rfl, hq_1⟩ := hq_1
    obtain rfl := hq_1.symm
    refine A_beq (q := 12) (t := 16) X dX9_redexNumber_9 rfl rfl (fun hb9 => ?_) (fun hb9 => ?_)
    · refine A_iload_n (q := 17) X dX9_redexNumber_16 rfl rfl ?_
      refine A_aload_n (q := 18) X dX9_redexNumber_17 rfl rfl ?_
      refine A_iload_n (q := 19) X dX9_redexNumber_18 rfl rfl ?_
      refine A_S2i (q := 22) X (c_X9_isRedex (p := (i)) hG ⟨ha0, hl0, F, ha, hS, hF⟩ hgd (by omega)) mX9_isRedex kX9_72 dX9_redexNumber_19 (by decide) (Nat.le_of_ble_eq_true rfl) rfl (fun vq_6 cq_5 hq_4 => ?_)
      obtain ⟨rfl, hq_4⟩ := hq_4
      obtain rfl := hq_4.symm
      refine A_beq (q := 25) (t := 29) X dX9_redexNumber_22 rfl rfl (fun hb22 => ?_) (fun hb22 => ?_)
      · refine A_iconst (q := 30) X dX9_redexNumber_29 rfl ?_
        refine A_isub (q := 31) X dX9_redexNumber_30 rfl ?_
        refine A_istore_n (q := 32) X dX9_redexNumber_31 (by decide) (okP_s rfl rfl) rfl ?_
        refine A_iinc (q := 35) X dX9_redexNumber_32 rfl (by decide) (okP_s rfl rfl) rfl ?_
        refine A_goto (q := 4) X dX9_redexNumber_35 rfl ?_
        have hstep : cntP (rx l0) (i + 1) = cntP (rx l0) i + (if rx l0 i then 1 else 0) := rfl
        first | rw [if_pos hb22] at hstep | rw [if_neg hb22] at hstep
        exact AW.loc (sS rfl (sS rfl (sZ rfl (by first | omega | exact absurd hb22 hb9 | exact absurd hb9 hb22) (sZ rfl (by omega) sE)))) (ih (i + 1) (by omega) (by first | omega | exact absurd hb22 hb9 | exact absurd hb9 hb22))
      · refine A_iconst (q := 26) X dX9_redexNumber_25 rfl ?_
        refine A_goto (q := 30) X dX9_redexNumber_26 rfl ?_
        refine A_isub (q := 31) X dX9_redexNumber_30 rfl ?_
        refine A_istore_n (q := 32) X dX9_redexNumber_31 (by decide) (okP_s rfl rfl) rfl ?_
        refine A_iinc (q := 35) X dX9_redexNumber_32 rfl (by decide) (okP_s rfl rfl) rfl ?_
        refine A_goto (q := 4) X dX9_redexNumber_35 rfl ?_
        have hstep : cntP (rx l0) (i + 1) = cntP (rx l0) i + (if rx l0 i then 1 else 0) := rfl
        first | rw [if_pos hb22] at hstep | rw [if_neg hb22] at hstep
        exact AW.loc (sS rfl (sS rfl (sZ rfl (by first | omega | exact absurd hb22 hb9 | exact absurd hb9 hb22) (sZ rfl (by omega) sE)))) (ih (i + 1) (by omega) (by first | omega | exact absurd hb22 hb9 | exact absurd hb9 hb22))
    · refine A_iload_n (q := 13) X dX9_redexNumber_12 rfl rfl ?_
      refine A_if_le (q := 16) (t := 38) X dX9_redexNumber_13 (by omega) rfl rfl (fun hb13 => ?_) (fun hb13 => ?_)
      · refine A_iload_n (q := 39) X dX9_redexNumber_38 rfl rfl ?_
        exact A_ireturn X dX9_redexNumber_39 ⟨⟨i, by omega, rfl, hb9, by omega⟩, rfl⟩
      · refine A_iload_n (q := 17) X dX9_redexNumber_16 rfl rfl ?_
        refine A_aload_n (q := 18) X dX9_redexNumber_17 rfl rfl ?_
        refine A_iload_n (q := 19) X dX9_redexNumber_18 rfl rfl ?_
        refine A_S2i (q := 22) X (c_X9_isRedex (p := (i)) hG ⟨ha0, hl0, F, ha, hS, hF⟩ hgd (by omega)) mX9_isRedex kX9_72 dX9_redexNumber_19 (by decide) (Nat.le_of_ble_eq_true rfl) rfl (fun vq_9 cq_8 hq_7 => ?_)
        obtain ⟨rfl, hq_7⟩ := hq_7
        obtain rfl := hq_7.symm
        refine A_beq (q := 25) (t := 29) X dX9_redexNumber_22 rfl rfl (fun hb22 => ?_) (fun hb22 => ?_)
        · refine A_iconst (q := 30) X dX9_redexNumber_29 rfl ?_
          refine A_isub (q := 31) X dX9_redexNumber_30 rfl ?_
          refine A_istore_n (q := 32) X dX9_redexNumber_31 (by decide) (okP_s rfl rfl) rfl ?_
          refine A_iinc (q := 35) X dX9_redexNumber_32 rfl (by decide) (okP_s rfl rfl) rfl ?_
          refine A_goto (q := 4) X dX9_redexNumber_35 rfl ?_
          have hstep : cntP (rx l0) (i + 1) = cntP (rx l0) i + (if rx l0 i then 1 else 0) := rfl
          first | rw [if_pos hb22] at hstep | rw [if_neg hb22] at hstep
          exact AW.loc (sS rfl (sS rfl (sZ rfl (by first | omega | exact absurd hb22 hb9 | exact absurd hb9 hb22) (sZ rfl (by omega) sE)))) (ih (i + 1) (by omega) (by first | omega | exact absurd hb22 hb9 | exact absurd hb9 hb22))
        · refine A_iconst (q := 26) X dX9_redexNumber_25 rfl ?_
          refine A_goto (q := 30) X dX9_redexNumber_26 rfl ?_
          refine A_isub (q := 31) X dX9_redexNumber_30 rfl ?_
          refine A_istore_n (q := 32) X dX9_redexNumber_31 (by decide) (okP_s rfl rfl) rfl ?_
          refine A_iinc (q := 35) X dX9_redexNumber_32 rfl (by decide) (okP_s rfl rfl) rfl ?_
          refine A_goto (q := 4) X dX9_redexNumber_35 rfl ?_
          have hstep : cntP (rx l0) (i + 1) = cntP (rx l0) i + (if rx l0 i then 1 else 0) := rfl
          first | rw [if_pos hb22] at hstep | rw [if_neg hb22] at hstep
          exact AW.loc (sS rfl (sS rfl (sZ rfl (by first | omega | exact absurd hb22 hb9 | exact absurd hb9 hb22) (sZ rfl (by omega) sE)))) (ih (i + 1) (by omega) (by first | omega | exact absurd hb22 hb9 | exact absurd hb9 hb22))
set_option maxRecDepth 100000 in
set_option maxHeartbeats 4000000 in
theorem c_X9_redexNumber {l : Launch} {G : Gm} {c : HP} {a : Nat} {l0 : List Int} {m : Nat} (hG : injG G) (hT : Mt G c a l0) (hgd : Gd l0) (hm : m < cntP (rx l0) l0.length) : AMet l G yX9_redexNumber cX9_redexNumber 4 ((some .int)) (rmR 1 21) [.ref (G.1 a), .int (zI ((m : Nat) : Int))] c (Qi (fun v c' => (∃ k : Nat, k < l0.length ∧ v = zI (k : Nat) ∧ rx l0 k ∧ cntP (rx l0) k = m) ∧ c' = c)) := by
  refine AMet.of (vl := [some (.ref (G.1 a)), some (.int (zI ((m : Nat) : Int)))]) (by decide) hG (Nat.le_of_ble_eq_true rfl) rfl ?_
  intro K X
  have X : Fx l G K cX9_redexNumber 4 RX9 ((some .int)) (rmR 1 21) := X
  obtain ⟨ha0, hl0, F, ha, hS, hF⟩ := hT
  have hpos := hgd.pos
  refine A_iload_n (q := 1) X dX9_redexNumber_0 rfl rfl ?_
  refine A_istore_n (q := 2) X dX9_redexNumber_1 (by decide) (okP_s rfl rfl) rfl ?_
  refine A_iconst (q := 3) X dX9_redexNumber_2 rfl ?_
  refine A_istore_n (q := 4) X dX9_redexNumber_3 (by decide) (okP_s rfl rfl) rfl ?_
  exact AW.loc (sS rfl (sS rfl (sZ rfl rfl (sZ rfl rfl sE)))) (lp_X9_redexNumber X hG ha0 hl0 ha hS hF hgd hpos hm (by have := cntP_le (rx l0) l0.length; omega) _ 0 (Nat.lt_succ_self _) (Nat.zero_le _))
