/-! TEXT -/
def tkc (c : Int) : Int := if c = 76 then 1001 else if c = 64 then 1000 else if 48 ≤ c ∧ c ≤ 57 then c - 48 else -1
theorem tkc_rg (c : Int) : -1 ≤ tkc c ∧ tkc c ≤ 1001 := by
  unfold tkc
  split
  · omega
  · split
    · omega
    · split <;> omega
def erf : List Int → Nat → Nat → Int
  | [], n, i => if n = 0 then -9 else (i : Nat)
  | c :: r, n, i => if n = 0 ∨ tkc c = -1 then (i : Nat) else erf r (n - 1 + prt (tkc c)) (i + 1)
theorem erf_wf : ∀ (x : List Int) (n i : Nat) (cs : List Nat), erf x n i = -9 → cs.length = n → (∀ c ∈ cs, 10 ≤ c) → wfr (x.map tkc) cs = some []
  | [], n, i, cs, h, hl, hc => by
    unfold erf at h
    split at h
    · have : cs = [] := List.length_eq_zero_iff.mp (by omega)
      rw [this]
      rfl
    · omega
  | c :: r, n, i, cs, h, hl, hc => by
    unfold erf at h
    split at h
    · omega
    · rename_i hn
      cases cs with
      | nil => simp only [List.length_nil] at hl; omega
      | cons c0 cs =>
        simp only [List.length_cons] at hl
        have h0 := hc c0 List.mem_cons_self
        have hr := fun x hx => hc x (List.mem_cons_of_mem _ hx)
        have key : ∃ m, nxt (tkc c) c0 = some m ∧ m.length = prt (tkc c) ∧ ∀ y ∈ m, 10 ≤ y := by
          have hn2 : tkc c ≠ -1 := fun z => hn (Or.inr z)
          have e1 : tkc c = 1001 ∨ tkc c = 1000 ∨ (0 ≤ tkc c ∧ tkc c ≤ 9) := by
            unfold tkc at hn2 ⊢
            split
            · exact Or.inl rfl
            · split
              · exact Or.inr (Or.inl rfl)
              · split
                · exact Or.inr (Or.inr (by omega))
                · rename_i a1 a2 a3
                  rw [if_neg a1, if_neg a2, if_neg a3] at hn2
                  exact absurd rfl hn2
          rcases e1 with e | e | e
          · rw [e]; exact ⟨[c0 + 1], rfl, rfl, fun y hy => by have : y = c0 + 1 := by simpa using hy
                                                              omega⟩
          · rw [e]; exact ⟨[c0, c0], rfl, rfl, fun y hy => by have : y = c0 := by simpa using hy
                                                              omega⟩
          · exact ⟨[], nxt_var e.1 (by omega) (by omega), by rw [prt_var (by omega) (by omega) (by omega)]; rfl, fun y hy => by cases hy⟩
        obtain ⟨m, k1, k2, k3⟩ := key
        rw [List.map_cons, wfr_step k1]
        refine erf_wf r _ _ (m ++ cs) h (by rw [List.length_append]; omega) (fun y hy => ?_)
        rcases List.mem_append.mp hy with q | q
        · exact k3 y q
        · exact hr y q
theorem Gd_text {x : List Int} (h : erf x 1 0 = -9) (hl : x.length ≤ 60) : Gd (x.map tkc) := by
  refine ⟨by rw [List.length_map]; omega, erf_wf x 1 0 [10] h rfl (fun c hc => Nat.le_of_eq (List.mem_singleton.mp hc).symm), fun t ht => ?_⟩
  obtain ⟨c, -, rfl⟩ := List.mem_map.mp ht
  have := tkc_rg c
  omega
def Tx (G : Gm) (c : HP) (x : List Int) : Prop := c 36 = .inr (7, [.ref (G.1 37), .int (zI (x.length : Nat))]) ∧ x.length ≤ 60 ∧ (∀ t ∈ x, 0 ≤ t ∧ t ≤ 255) ∧ ∃ F : Nat → Int, c 37 = aI G 60 F ∧ ∀ k, k < x.length → F k = x.getD k 0
theorem Tx.keep {G : Gm} {c c' : HP} {x : List Int} (h : Tx G c x) (e1 : c' 36 = c 36) (e2 : c' 37 = c 37) : Tx G c' x := by
  obtain ⟨h1, h2, h3, F, h4, h5⟩ := h
  exact ⟨e1.trans h1, h2, h3, F, e2.trans h4, h5⟩
set_option maxRecDepth 100000 in
set_option maxHeartbeats 4000000 in
theorem c_X7_length {l : Launch} {G : Gm} {c : HP} {x : List Int} (hG : injG G) (hN : G.2.1 = 72) (hX : Tx G c x) : AMet l G yX7_length cX7_length 1 ((some .int)) (rmR 0 0) [.ref (G.1 36)] c (Qi (fun v c' => v = zI (x.length : Nat) ∧ c' = c)) := by
  refine AMet.of (vl := [some (.ref (G.1 36))]) (by decide) hG (Nat.le_of_ble_eq_true rfl) rfl ?_
  intro K X
  have X : Fx l G K cX7_length 1 RX7 ((some .int)) (rmR 0 0) := X
  obtain ⟨hh, hxl, hxr, F, ha, hF⟩ := hX
  have hX0 : Tx G c x := ⟨hh, hxl, hxr, F, ha, hF⟩
  refine A_aload_n (q := 1) X dX7_length_0 rfl rfl ?_
  refine A_getf (q := 4) X fX7_15 dX7_length_1 (by omega) hh rfl rfl ?_
  exact A_ireturn X dX7_length_4 ⟨rfl, rfl⟩
set_option maxRecDepth 100000 in
set_option maxHeartbeats 4000000 in
theorem c_X7_put {l : Launch} {G : Gm} {c : HP} {x : List Int} {t : Int} (hG : injG G) (hN : G.2.1 = 72) (hX : Tx G c x) (ht : 0 ≤ t ∧ t ≤ 255) : AMet l G yX7_put cX7_put 2 ((some .boolean)) (rmR 0 0) [.ref (G.1 36), .int (zI t)] c (Qi (fun v c' => v = zI (if x.length < 60 then 1 else 0) ∧ (x.length < 60 → Tx G c' (x ++ [t])) ∧ (¬ x.length < 60 → c' = c) ∧ (∀ k, k ≠ 36 → k ≠ 37 → c' k = c k))) := by
  refine AMet.of (vl := [some (.ref (G.1 36)), some (.int (zI t))]) (by decide) hG (Nat.le_of_ble_eq_true rfl) rfl ?_
  intro K X
  have X : Fx l G K cX7_put 2 RX7 ((some .boolean)) (rmR 0 0) := X
  obtain ⟨hh, hxl, hxr, F, ha, hF⟩ := hX
  have hX0 : Tx G c x := ⟨hh, hxl, hxr, F, ha, hF⟩
  refine A_aload_n (q := 1) X dX7_put_0 rfl rfl ?_
  refine A_getf (q := 4) X fX7_15 dX7_put_1 (by omega) hh rfl rfl ?_
  refine A_bipush (q := 6) X dX7_put_4 (by decide) rfl ?_
  refine A_icmp_lt (q := 9) (t := 11) X dX7_put_6 (by omega) (by decide) rfl rfl (fun hb6 => ?_) (fun hb6 => ?_)
  · refine A_aload_n (q := 12) X dX7_put_11 rfl rfl ?_
    refine A_getf (q := 15) X fX7_9 dX7_put_12 (by omega) hh rfl rfl ?_
    refine A_aload_n (q := 16) X dX7_put_15 rfl rfl ?_
    refine A_getf (q := 19) X fX7_15 dX7_put_16 (by omega) hh rfl rfl ?_
    refine A_iload_n (q := 20) X dX7_put_19 rfl rfl ?_
    refine A_iast (q := 21) (h := 37) (x.length) X dX7_put_20 (by omega) ha (by omega) (by omega) (by decide) rfl ?_
    refine A_aload_n (q := 22) X dX7_put_21 rfl rfl ?_
    refine A_dup (q := 23) X dX7_put_22 rfl rfl ?_
    refine A_getf (q := 26) X fX7_15 dX7_put_23 (by omega) (lk_ne (by omega) hh) rfl rfl ?_
    refine A_iconst (q := 27) X dX7_put_26 rfl ?_
    refine A_iadd (q := 28) X dX7_put_27 rfl ?_
    refine A_putf (q := 31) X pX7_15 dX7_put_28 (by omega) (lk_ne (by omega) hh) (Nat.le_of_ble_eq_true rfl) rfl rfl rfl ?_
    refine A_iconst (q := 32) X dX7_put_31 rfl ?_
    refine A_zreturn X dX7_put_32 (by decide) ⟨zb1 (by omega), fun _ => ⟨lk_eq.trans (by rw [List.length_append]; rfl), by rw [List.length_append]; show x.length + 1 ≤ 60; omega, ?_, _, (lk_ne (by omega) lk_eq), fun k hk => ?_⟩, fun h => absurd h (by omega), (fun k n0 n1 => (lk_ne (by omega) (lk_ne (by omega) rfl)))⟩
    · intro y hy
      rcases List.mem_append.mp hy with q | q
      · exact hxr y q
      · have : y = t := by simpa using q
        omega
    · rw [List.length_append, List.length_singleton] at hk
      by_cases e : k = x.length
      · subst e; rw [lk_eq, getD_app_ge (Nat.le_refl _), Nat.sub_self]; rfl
      · rw [lk_ne e rfl, getD_app_lt (by omega)]; exact hF k (by omega)
  · refine A_iconst (q := 10) X dX7_put_9 rfl ?_
    exact A_zreturn X dX7_put_10 (by decide) ⟨zb0 (by omega), fun h => absurd h (by omega), fun _ => rfl, fun _ _ _ => rfl⟩
set_option maxRecDepth 100000 in
set_option maxHeartbeats 4000000 in
theorem c_X7_clear {l : Launch} {G : Gm} {c : HP} {x : List Int} (hG : injG G) (hN : G.2.1 = 72) (hX : Tx G c x) : AMet l G yX7_clear cX7_clear 1 (none) (rmR 0 0) [.ref (G.1 36)] c (Qv (fun c' => Tx G c' [] ∧ (∀ k, k ≠ 36 → k ≠ 37 → c' k = c k))) := by
  refine AMet.of (vl := [some (.ref (G.1 36))]) (by decide) hG (Nat.le_of_ble_eq_true rfl) rfl ?_
  intro K X
  have X : Fx l G K cX7_clear 1 RX7 (none) (rmR 0 0) := X
  obtain ⟨hh, hxl, hxr, F, ha, hF⟩ := hX
  have hX0 : Tx G c x := ⟨hh, hxl, hxr, F, ha, hF⟩
  refine A_aload_n (q := 1) X dX7_clear_0 rfl rfl ?_
  refine A_iconst (q := 2) X dX7_clear_1 rfl ?_
  refine A_putf (q := 5) X pX7_15 dX7_clear_2 (by omega) hh (Nat.le_of_ble_eq_true rfl) rfl rfl rfl ?_
  exact A_return X dX7_clear_5 ⟨⟨lk_eq, by decide, (fun t ht => absurd ht List.not_mem_nil), F, (lk_ne (by omega) ha), fun k hk => absurd hk (Nat.not_lt_zero k)⟩, (fun k n0 n1 => (lk_ne (by omega) rfl))⟩
set_option maxRecDepth 100000 in
set_option maxHeartbeats 4000000 in
theorem c_X7_tokenOf {l : Launch} {G : Gm} {c : HP} {t : Int} (hG : injG G) (ht : rg t) : AMet l G yX7_tokenOf cX7_tokenOf 1 ((some .int)) (rmR 0 0) [.int (zI t)] c (Qi (fun v c' => v = zI (tkc t) ∧ c' = c)) := by
  refine AMet.of (vl := [some (.int (zI t))]) (by decide) hG (Nat.le_of_ble_eq_true rfl) rfl ?_
  intro K X
  have X : Fx l G K cX7_tokenOf 1 RX7 ((some .int)) (rmR 0 0) := X
  refine A_iload_n (q := 1) X dX7_tokenOf_0 rfl rfl ?_
  refine A_bipush (q := 3) X dX7_tokenOf_1 (by decide) rfl ?_
  refine A_icmp_ne (q := 6) (t := 10) X dX7_tokenOf_3 (by omega) (by decide) rfl rfl (fun hb3 => ?_) (fun hb3 => ?_)
  · refine A_iload_n (q := 11) X dX7_tokenOf_10 rfl rfl ?_
    refine A_bipush (q := 13) X dX7_tokenOf_11 (by decide) rfl ?_
    refine A_icmp_ne (q := 16) (t := 20) X dX7_tokenOf_13 (by omega) (by decide) rfl rfl (fun hb13 => ?_) (fun hb13 => ?_)
    · refine A_iload_n (q := 21) X dX7_tokenOf_20 rfl rfl ?_
      refine A_bipush (q := 23) X dX7_tokenOf_21 (by decide) rfl ?_
      refine A_icmp_lt (q := 26) (t := 39) X dX7_tokenOf_23 (by omega) (by decide) rfl rfl (fun hb23 => ?_) (fun hb23 => ?_)
      · refine A_iconst (q := 40) X dX7_tokenOf_39 rfl ?_
        exact A_ireturn X dX7_tokenOf_40 ⟨by unfold tkc; repeat (first | rw [if_pos (by omega)] | rw [if_neg (by omega)]), rfl⟩
      · refine A_iload_n (q := 27) X dX7_tokenOf_26 rfl rfl ?_
        refine A_bipush (q := 29) X dX7_tokenOf_27 (by decide) rfl ?_
        refine A_icmp_gt (q := 32) (t := 39) X dX7_tokenOf_29 (by omega) (by decide) rfl rfl (fun hb29 => ?_) (fun hb29 => ?_)
        · refine A_iconst (q := 40) X dX7_tokenOf_39 rfl ?_
          exact A_ireturn X dX7_tokenOf_40 ⟨by unfold tkc; repeat (first | rw [if_pos (by omega)] | rw [if_neg (by omega)]), rfl⟩
        · refine A_iload_n (q := 33) X dX7_tokenOf_32 rfl rfl ?_
          refine A_bipush (q := 35) X dX7_tokenOf_33 (by decide) rfl ?_
          refine A_isub (q := 36) X dX7_tokenOf_35 rfl ?_
          refine A_goto (q := 40) X dX7_tokenOf_36 rfl ?_
          exact A_ireturn X dX7_tokenOf_40 ⟨by unfold tkc; repeat (first | rw [if_pos (by omega)] | rw [if_neg (by omega)]), rfl⟩
    · refine A_sipush (q := 19) X dX7_tokenOf_16 (by decide) rfl ?_
      exact A_ireturn X dX7_tokenOf_19 ⟨by unfold tkc; repeat (first | rw [if_pos (by omega)] | rw [if_neg (by omega)]), rfl⟩
  · refine A_sipush (q := 9) X dX7_tokenOf_6 (by decide) rfl ?_
    exact A_ireturn X dX7_tokenOf_9 ⟨by unfold tkc; repeat (first | rw [if_pos (by omega)] | rw [if_neg (by omega)]), rfl⟩
theorem pA_tkc (c : Int) : pA (tkc c) = (prt (tkc c) : Nat) := by
  have := tkc_rg c
  generalize tkc c = t at *
  unfold pA prt
  rw [if_neg (by omega : ¬ (1000000 : Int) ≤ t)]
  by_cases h1 : t = 1000
  · rw [if_pos h1, if_pos h1]; rfl
  · rw [if_neg h1, if_neg h1]
    by_cases h2 : t = 1001
    · rw [if_pos (Or.inl h2), if_pos h2]; rfl
    · rw [if_neg (by omega), if_neg h2]; rfl
theorem prt_tkc (c : Int) : prt (tkc c) ≤ 2 := by
  have := tkc_rg c
  unfold prt
  rw [if_neg (by omega)]
  split
  · omega
  · split <;> omega
set_option maxRecDepth 100000 in
set_option maxHeartbeats 4000000 in
theorem lp_X7_firstError {l : Launch} {G : Gm} {K : Cx} {c : HP} {x : List Int} {F : Nat → Int} (X : Fx l G K cX7_firstError 4 RX7 ((some .int)) (rmR 1 20)) (hG : injG G) (hN : G.2.1 = 72) (hh : c 36 = .inr (7, [.ref (G.1 37), .int (zI (x.length : Nat))])) (ha : c 37 = aI G 60 F) (hxl : x.length ≤ 60) (hxr : ∀ t ∈ x, 0 ≤ t ∧ t ≤ 255) (hF : ∀ k, k < x.length → F k = x.getD k 0) : ∀ (n : Nat) (i : Nat) (m : Nat), x.length - i < n → i ≤ x.length → m ≤ i + 1 → erf x 1 0 = erf (x.drop i) m i → AW G K (Qi (fun v c' => v = zI (erf x 1 0) ∧ c' = c)) 4 (mkL [some (.ref (G.1 36)), some (.int (zI ((m : Nat) : Int))), some (.int (zI ((i : Nat) : Int))), none]) [] c := by
  intro n
  induction n with
  | zero => intro i m hmz; exact absurd hmz (Nat.not_lt_zero _)
  | succ n ih =>
    intro i m hmz hi hm he
    refine A_iload_n (q := 5) X dX7_firstError_4 rfl rfl ?_
    refine A_aload_n (q := 6) X dX7_firstError_5 rfl rfl ?_
    refine A_getf (q := 9) X fX7_15 dX7_firstError_6 (by omega) hh rfl rfl ?_
    refine A_icmp_ge (q := 12) (t := 48) X dX7_firstError_9 (by omega) (by omega) rfl rfl (fun hb9 => ?_) (fun hb9 => ?_)
    · refine A_iload_n (q := 49) X dX7_firstError_48 rfl rfl ?_
      refine A_if_ne (q := 52) (t := 57) X dX7_firstError_49 (by omega) rfl rfl (fun hb49 => ?_) (fun hb49 => ?_)
      · refine A_aload_n (q := 58) X dX7_firstError_57 rfl rfl ?_
        refine A_getf (q := 61) X fX7_15 dX7_firstError_58 (by omega) hh rfl rfl ?_
        refine A_ireturn X dX7_firstError_61 ⟨?_, rfl⟩
        rw [he, List.drop_eq_nil_of_le (by omega)]
        show _ = zI (if m = 0 then -9 else ((i : Nat) : Int))
        first | rw [if_pos (by omega)] | (rw [if_neg (by omega)]; congr 1; omega)
      · refine A_bipush (q := 54) X dX7_firstError_52 (by decide) rfl ?_
        refine A_goto (q := 61) X dX7_firstError_54 rfl ?_
        refine A_ireturn X dX7_firstError_61 ⟨?_, rfl⟩
        rw [he, List.drop_eq_nil_of_le (by omega)]
        show _ = zI (if m = 0 then -9 else ((i : Nat) : Int))
        first | rw [if_pos (by omega)] | (rw [if_neg (by omega)]; congr 1; omega)
    · have hil : i < x.length := by omega
      have hxi := hxr _ (mem_getD hil)
      have hFi := hF i hil
      have htk := tkc_rg (x.getD i 0)
      refine A_aload_n (q := 13) X dX7_firstError_12 rfl rfl ?_
      refine A_getf (q := 16) X fX7_9 dX7_firstError_13 (by omega) hh rfl rfl ?_
      refine A_iload_n (q := 17) X dX7_firstError_16 rfl rfl ?_
      refine A_iald (q := 18) (h := 37) (i) X dX7_firstError_17 (by omega) ha (by omega) (by omega) (by decide) rfl ?_
      rw [hFi]
      refine A_S1i (q := 21) X (c_X7_tokenOf hG (by omega)) mX7_tokenOf kX7_19 dX7_firstError_18 (by decide) (Nat.le_of_ble_eq_true rfl) rfl (fun vq_3 cq_2 hq_1 => ?_)
      obtain ⟨rfl, hq_1⟩ := hq_1
      obtain rfl := hq_1.symm
      refine A_istore_n (q := 22) X dX7_firstError_21 (by decide) (okP_s rfl rfl) rfl ?_
      refine A_iload_n (q := 23) X dX7_firstError_22 rfl rfl ?_
      refine A_if_eq (q := 26) (t := 31) X dX7_firstError_23 (by omega) rfl rfl (fun hb23 => ?_) (fun hb23 => ?_)
      · refine A_iload_n (q := 32) X dX7_firstError_31 rfl rfl ?_
        refine A_ireturn X dX7_firstError_32 ⟨?_, rfl⟩
        rw [he, drop_cons hil]
        show _ = zI (if m = 0 ∨ tkc (x.getD i 0) = -1 then ((i : Nat) : Int) else _)
        rw [if_pos (by omega)]
      · refine A_iload_n (q := 27) X dX7_firstError_26 rfl rfl ?_
        refine A_iconst (q := 28) X dX7_firstError_27 rfl ?_
        refine A_icmp_ne (q := 31) (t := 33) X dX7_firstError_28 (by omega) (by decide) rfl rfl (fun hb28 => ?_) (fun hb28 => ?_)
        · refine A_iload_n (q := 34) X dX7_firstError_33 rfl rfl ?_
          refine A_iload_n (q := 35) X dX7_firstError_34 rfl rfl ?_
          refine A_N1i (q := 38) X (c_X8_parts hG (by omega)) mX8_parts (by decide +kernel) dX7_firstError_35 (by decide) (Nat.le_of_ble_eq_true rfl) rfl (fun vq_6 cq_5 hq_4 => ?_)
          obtain ⟨rfl, hq_4⟩ := hq_4
          obtain rfl := hq_4.symm
          rw [pA_tkc]
          have hpl : prt (tkc (x.getD i 0)) ≤ 2 := prt_tkc _
          refine A_iconst (q := 39) X dX7_firstError_38 rfl ?_
          refine A_isub (q := 40) X dX7_firstError_39 rfl ?_
          refine A_iadd (q := 41) X dX7_firstError_40 rfl ?_
          refine A_istore_n (q := 42) X dX7_firstError_41 (by decide) (okP_s rfl rfl) rfl ?_
          refine A_iinc (q := 45) X dX7_firstError_42 rfl (by decide) (okP_s rfl rfl) rfl ?_
          refine A_goto (q := 4) X dX7_firstError_45 rfl ?_
          refine AW.loc (sS rfl (sZ rfl (by omega) (sZ rfl (by omega) (sN sE)))) (ih (i + 1) (m - 1 + prt (tkc (x.getD i 0))) (by omega) (by omega) (by omega) ?_)
          rw [he, drop_cons hil]
          show (if m = 0 ∨ tkc (x.getD i 0) = -1 then ((i : Nat) : Int) else _) = _
          rw [if_neg (by omega)]
        · refine A_iload_n (q := 32) X dX7_firstError_31 rfl rfl ?_
          refine A_ireturn X dX7_firstError_32 ⟨?_, rfl⟩
          rw [he, drop_cons hil]
          show _ = zI (if m = 0 ∨ tkc (x.getD i 0) = -1 then ((i : Nat) : Int) else _)
          rw [if_pos (by omega)]
set_option maxRecDepth 100000 in
set_option maxHeartbeats 4000000 in
theorem c_X7_firstError {l : Launch} {G : Gm} {c : HP} {x : List Int} (hG : injG G) (hN : G.2.1 = 72) (hX : Tx G c x) : AMet l G yX7_firstError cX7_firstError 4 ((some .int)) (rmR 1 20) [.ref (G.1 36)] c (Qi (fun v c' => v = zI (erf x 1 0) ∧ c' = c)) := by
  refine AMet.of (vl := [some (.ref (G.1 36))]) (by decide) hG (Nat.le_of_ble_eq_true rfl) rfl ?_
  intro K X
  have X : Fx l G K cX7_firstError 4 RX7 ((some .int)) (rmR 1 20) := X
  obtain ⟨hh, hxl, hxr, F, ha, hF⟩ := hX
  have hX0 : Tx G c x := ⟨hh, hxl, hxr, F, ha, hF⟩
  refine A_iconst (q := 1) X dX7_firstError_0 rfl ?_
  refine A_istore_n (q := 2) X dX7_firstError_1 (by decide) (okP_s rfl rfl) rfl ?_
  refine A_iconst (q := 3) X dX7_firstError_2 rfl ?_
  refine A_istore_n (q := 4) X dX7_firstError_3 (by decide) (okP_s rfl rfl) rfl ?_
  exact AW.loc (sS rfl (sZ rfl (by omega) (sZ rfl (by omega) (sN sE)))) (lp_X7_firstError X hG hN hh ha hxl hxr hF _ 0 1 (Nat.lt_succ_self _) (Nat.zero_le _) (Nat.le_refl _) rfl)
set_option maxRecDepth 100000 in
set_option maxHeartbeats 4000000 in
theorem lp_X7_writeTo {l : Launch} {G : Gm} {K : Cx} {c0 : HP} {x : List Int} {F : Nat → Int} {t ta : Nat} (X : Fx l G K cX7_writeTo 3 RX7 (none) (rmR 1 21)) (hG : injG G) (hN : G.2.1 = 72) (hh0 : c0 36 = .inr (7, [.ref (G.1 37), .int (zI (x.length : Nat))])) (ha0 : c0 37 = aI G 60 F) (hxl : x.length ≤ 60) (hxr : ∀ t ∈ x, 0 ≤ t ∧ t ≤ 255) (hF : ∀ k, k < x.length → F k = x.getD k 0) (x1 : t < 11) (x2 : ta < 11) : ∀ (n : Nat) (i : Nat) (T : List Int × Int) (c : HP), x.length - i < n → i ≤ x.length → Tm G c t ta T → T = ((x.take i).map tkc, 0) → (∀ k, k ≠ t → k ≠ ta → c k = c0 k) → AW G K (Qv (fun c' => Tm G c' t ta (x.map tkc, 0) ∧ (∀ k, k ≠ t → k ≠ ta → c' k = c0 k))) 6 (mkL [some (.ref (G.1 36)), some (.ref (G.1 t)), some (.int (zI ((i : Nat) : Int)))]) [] c := by
  intro n
  induction n with
  | zero => intro i T c hmz; exact absurd hmz (Nat.not_lt_zero _)
  | succ n ih =>
    intro i T c hmz hi hT hTe hf0
    have hh := (hf0 36 (by omega) (by omega)).trans hh0
    have ha := (hf0 37 (by omega) (by omega)).trans ha0
    refine A_iload_n (q := 7) X dX7_writeTo_6 rfl rfl ?_
    refine A_aload_n (q := 8) X dX7_writeTo_7 rfl rfl ?_
    refine A_getf (q := 11) X fX7_15 dX7_writeTo_8 (by omega) hh rfl rfl ?_
    refine A_icmp_ge (q := 14) (t := 33) X dX7_writeTo_11 (by omega) (by omega) rfl rfl (fun hb11 => ?_) (fun hb11 => ?_)
    · exact A_return X dX7_writeTo_33 ⟨by rw [hTe, List.take_of_length_le (by omega)] at hT; exact hT, hf0⟩
    · refine A_aload_n (q := 15) X dX7_writeTo_14 rfl rfl ?_
      refine A_aload_n (q := 16) X dX7_writeTo_15 rfl rfl ?_
      refine A_getf (q := 19) X fX7_9 dX7_writeTo_16 (by omega) hh rfl rfl ?_
      refine A_iload_n (q := 20) X dX7_writeTo_19 rfl rfl ?_
      refine A_iald (q := 21) (h := 37) (i) X dX7_writeTo_20 (by omega) ha (by omega) (by omega) (by decide) rfl ?_
      have hxi := hxr _ (mem_getD (l := x) (i := i) (by omega))
      rw [hF i (by omega)]
      refine A_S1i (q := 24) X (c_X7_tokenOf hG (by omega)) mX7_tokenOf kX7_19 dX7_writeTo_21 (by decide) (Nat.le_of_ble_eq_true rfl) rfl (fun vq_3 cq_2 hq_1 => ?_)
      obtain ⟨rfl, hq_1⟩ := hq_1
      obtain rfl := hq_1.symm
      refine A_V1v (q := 27) X (c_X6_add (t := (tkc (x.getD i 0))) hG hT) mX6_add kX7_31 dX7_writeTo_24 hT.lt hT.cell rfl (by decide) (Nat.le_of_ble_eq_true rfl) rfl (fun cq_5 hq_4 => ?_)
      obtain ⟨hT_6, hf_7⟩ := hq_4
      refine A_iinc (q := 30) X dX7_writeTo_27 rfl (by decide) (okP_s rfl rfl) rfl ?_
      refine A_goto (q := 6) X dX7_writeTo_30 rfl ?_
      exact AW.loc (sS rfl (sS rfl (sZ rfl (by omega) sE))) (ih (i + 1) _ _ (by omega) (by omega) hT_6 (by rw [hTe]; unfold tAdd; rw [if_pos (by show ((x.take i).map tkc).length < 200; rw [List.length_map, List.length_take]; omega), take_succ_getD (by omega), List.map_append]; rfl) (fun k n0 n1 => (hf_7 k n0 n1).trans (hf0 k n0 n1)))
set_option maxRecDepth 100000 in
set_option maxHeartbeats 4000000 in
theorem c_X7_writeTo {l : Launch} {G : Gm} {c : HP} {x : List Int} {t ta : Nat} {T : List Int × Int} (hG : injG G) (hN : G.2.1 = 72) (hX : Tx G c x) (hT : Tm G c t ta T) (x1 : t < 11) (x2 : ta < 11) : AMet l G yX7_writeTo cX7_writeTo 3 (none) (rmR 1 21) [.ref (G.1 36), .ref (G.1 t)] c (Qv (fun c' => Tm G c' t ta (x.map tkc, 0) ∧ (∀ k, k ≠ t → k ≠ ta → c' k = c k))) := by
  refine AMet.of (vl := [some (.ref (G.1 36)), some (.ref (G.1 t))]) (by decide) hG (Nat.le_of_ble_eq_true rfl) rfl ?_
  intro K X
  have X : Fx l G K cX7_writeTo 3 RX7 (none) (rmR 1 21) := X
  obtain ⟨hh, hxl, hxr, F, ha, hF⟩ := hX
  have hX0 : Tx G c x := ⟨hh, hxl, hxr, F, ha, hF⟩
  refine A_aload_n (q := 1) X dX7_writeTo_0 rfl rfl ?_
  refine A_V0v (q := 4) X (c_X6_clear hG hT) mX6_clear kX7_26 dX7_writeTo_1 hT.lt hT.cell rfl (by decide) (Nat.le_of_ble_eq_true rfl) rfl (fun cq_2 hq_1 => ?_)
  obtain ⟨hT_3, hf_4⟩ := hq_1
  refine A_iconst (q := 5) X dX7_writeTo_4 rfl ?_
  refine A_istore_n (q := 6) X dX7_writeTo_5 (by decide) (okP_s rfl rfl) rfl ?_
  exact AW.loc (sS rfl (sS rfl (sZ rfl (by omega) sE))) (lp_X7_writeTo X hG hN hh ha hxl hxr hF x1 x2 _ 0 _ _ (Nat.lt_succ_self _) (Nat.zero_le _) hT_3 (by rw [List.take_zero]; rfl) hf_4)
/-! OBSERVATIONS -/
abbrev OLst : Type := List (Int × Int)
def Ob (G : Gm) (c : HP) (o : List (Int × Int)) : Prop := c 38 = .inr (3, [.ref (G.1 39), .ref (G.1 40), .int (zI (o.length : Nat))]) ∧ o.length ≤ 6 ∧ (∀ q ∈ o, (0 ≤ q.1 ∧ q.1 ≤ 50) ∧ 1 ≤ q.2 ∧ q.2 ≤ 200) ∧ ∃ F V : Nat → Int, c 39 = aI G 6 F ∧ c 40 = aI G 6 V ∧ ∀ k, k < o.length → o.getD k (0, 0) = (F k, V k)
theorem Ob.keep {G : Gm} {c c' : HP} {o : List (Int × Int)} (h : Ob G c o) (e1 : c' 38 = c 38) (e2 : c' 39 = c 39) (e3 : c' 40 = c 40) : Ob G c' o := by
  obtain ⟨h1, h2, h3, F, V, h4, h5, h6⟩ := h
  exact ⟨e1.trans h1, h2, h3, F, V, e2.trans h4, e3.trans h5, h6⟩
theorem getD2_mem {o : List (Int × Int)} {k : Nat} (h : k < o.length) : o.getD k (0, 0) ∈ o := by
  rw [nI_get h]
  exact List.getElem_mem h
theorem getD2_lt {o r : List (Int × Int)} {k : Nat} (h : k < o.length) : (o ++ r).getD k (0, 0) = o.getD k (0, 0) := by
  simp only [List.getD_eq_getElem?_getD]
  rw [List.getElem?_append_left h]
theorem getD2_ge {o : List (Int × Int)} {q : Int × Int} : (o ++ [q]).getD o.length (0, 0) = q := by
  simp only [List.getD_eq_getElem?_getD]
  rw [List.getElem?_append_right (Nat.le_refl _), Nat.sub_self]
  rfl
theorem take2_succ {o : List (Int × Int)} {i : Nat} (h : i < o.length) : o.take (i + 1) = o.take i ++ [o.getD i (0, 0)] := by
  rw [nI_get h]
  exact (List.take_append_getElem h).symm
set_option maxRecDepth 100000 in
set_option maxHeartbeats 4000000 in
theorem c_X3_count {l : Launch} {G : Gm} {c : HP} {o : List (Int × Int)} (hG : injG G) (hN : G.2.1 = 72) (hB : Ob G c o) : AMet l G yX3_count cX3_count 1 ((some .int)) (rmR 0 0) [.ref (G.1 38)] c (Qi (fun v c' => v = zI (o.length : Nat) ∧ c' = c)) := by
  refine AMet.of (vl := [some (.ref (G.1 38))]) (by decide) hG (Nat.le_of_ble_eq_true rfl) rfl ?_
  intro K X
  have X : Fx l G K cX3_count 1 RX3 ((some .int)) (rmR 0 0) := X
  obtain ⟨hh, hol, hor, F, V, h1, h2, hFV⟩ := hB
  have hB0 : Ob G c o := ⟨hh, hol, hor, F, V, h1, h2, hFV⟩
  refine A_aload_n (q := 1) X dX3_count_0 rfl rfl ?_
  refine A_getf (q := 4) X fX3_18 dX3_count_1 (by omega) hh rfl rfl ?_
  exact A_ireturn X dX3_count_4 ⟨rfl, rfl⟩
set_option maxRecDepth 100000 in
set_option maxHeartbeats 4000000 in
theorem lp_X3_dropOldest {l : Launch} {G : Gm} {K : Cx} {c0 : HP} {o : List (Int × Int)} {F V : Nat → Int} (X : Fx l G K cX3_dropOldest 2 RX3 (none) (rmR 0 0)) (hG : injG G) (hN : G.2.1 = 72) (ho6 : o.length = 6) (hor : ∀ q ∈ o, (0 ≤ q.1 ∧ q.1 ≤ 50) ∧ 1 ≤ q.2 ∧ q.2 ≤ 200) (hFV : ∀ k, k < o.length → o.getD k (0, 0) = (F k, V k)) : ∀ (n : Nat) (i : Nat) (A : Nat → Int) (B : Nat → Int) (c : HP), 6 - i < n → 1 ≤ i ∧ i ≤ 6 → c 38 = .inr (3, [.ref (G.1 39), .ref (G.1 40), .int (zI (o.length : Nat))]) → c 39 = aI G 6 A → c 40 = aI G 6 B → (∀ j, j < i - 1 → A j = F (j + 1) ∧ B j = V (j + 1)) → (∀ j, i ≤ j → j < 6 → A j = F j ∧ B j = V j) → (∀ k, k < 38 ∨ 40 < k → c k = c0 k) → AW G K (Qv (fun c' => Ob G c' (o.drop 1) ∧ (∀ k, k < 38 ∨ 40 < k → c' k = c0 k))) 2 (mkL [some (.ref (G.1 38)), some (.int (zI ((i : Nat) : Int)))]) [] c := by
  intro n
  induction n with
  | zero => intro i A B c hmz; exact absurd hmz (Nat.not_lt_zero _)
  | succ n ih =>
    intro i A B c hmz hi hh h1 h2 hlo hhi hf0
    refine A_iload_n (q := 3) X dX3_dropOldest_2 rfl rfl ?_
    refine A_bipush (q := 5) X dX3_dropOldest_3 (by decide) rfl ?_
    refine A_icmp_ge (q := 8) (t := 42) X dX3_dropOldest_5 (by omega) (by decide) rfl rfl (fun hb5 => ?_) (fun hb5 => ?_)
    · refine A_aload_n (q := 43) X dX3_dropOldest_42 rfl rfl ?_
      refine A_iconst (q := 44) X dX3_dropOldest_43 rfl ?_
      refine A_putf (q := 47) X pX3_18 dX3_dropOldest_44 (by omega) hh (Nat.le_of_ble_eq_true rfl) rfl rfl rfl ?_
      refine A_return X dX3_dropOldest_47 ⟨⟨lk_eq.trans (by rw [List.length_drop, ho6]; rfl), by rw [List.length_drop]; omega, fun q hq => hor q (List.mem_of_mem_drop hq), A, B, (lk_ne (by omega) h1), (lk_ne (by omega) h2), fun k hk => ?_⟩, fun k n0 => lk_ne (by omega) (hf0 k n0)⟩
      rw [List.length_drop] at hk
      obtain ⟨g1, g2⟩ := hlo k (by omega)
      rw [g1, g2, ← hFV (k + 1) (by omega)]
      simp only [List.getD_eq_getElem?_getD, List.getElem?_drop, Nat.add_comm]
    · refine A_aload_n (q := 9) X dX3_dropOldest_8 rfl rfl ?_
      refine A_getf (q := 12) X fX3_9 dX3_dropOldest_9 (by omega) hh rfl rfl ?_
      refine A_iload_n (q := 13) X dX3_dropOldest_12 rfl rfl ?_
      refine A_iconst (q := 14) X dX3_dropOldest_13 rfl ?_
      refine A_isub (q := 15) X dX3_dropOldest_14 rfl ?_
      refine A_aload_n (q := 16) X dX3_dropOldest_15 rfl rfl ?_
      refine A_getf (q := 19) X fX3_9 dX3_dropOldest_16 (by omega) hh rfl rfl ?_
      refine A_iload_n (q := 20) X dX3_dropOldest_19 rfl rfl ?_
      refine A_iald (q := 21) (h := 39) (i) X dX3_dropOldest_20 (by omega) h1 (by omega) (by omega) (by decide) rfl ?_
      refine A_iast (q := 22) (h := 39) ((i) - 1) X dX3_dropOldest_21 (by omega) h1 (by omega) (by omega) (by decide) rfl ?_
      refine A_aload_n (q := 23) X dX3_dropOldest_22 rfl rfl ?_
      refine A_getf (q := 26) X fX3_15 dX3_dropOldest_23 (by omega) (lk_ne (by omega) hh) rfl rfl ?_
      refine A_iload_n (q := 27) X dX3_dropOldest_26 rfl rfl ?_
      refine A_iconst (q := 28) X dX3_dropOldest_27 rfl ?_
      refine A_isub (q := 29) X dX3_dropOldest_28 rfl ?_
      refine A_aload_n (q := 30) X dX3_dropOldest_29 rfl rfl ?_
      refine A_getf (q := 33) X fX3_15 dX3_dropOldest_30 (by omega) (lk_ne (by omega) hh) rfl rfl ?_
      refine A_iload_n (q := 34) X dX3_dropOldest_33 rfl rfl ?_
      refine A_iald (q := 35) (h := 40) (i) X dX3_dropOldest_34 (by omega) (lk_ne (by omega) h2) (by omega) (by omega) (by decide) rfl ?_
      refine A_iast (q := 36) (h := 40) ((i) - 1) X dX3_dropOldest_35 (by omega) (lk_ne (by omega) h2) (by omega) (by omega) (by decide) rfl ?_
      refine A_iinc (q := 39) X dX3_dropOldest_36 rfl (by decide) (okP_s rfl rfl) rfl ?_
      refine A_goto (q := 2) X dX3_dropOldest_39 rfl ?_
      refine AW.loc (sS rfl (sZ rfl (by omega) sE)) (ih (i + 1) _ _ _ (by omega) (by omega) ((lk_ne (by omega) (lk_ne (by omega) hh))) (lk_ne (by omega) lk_eq) (lk_eq) (fun j hj => ?_) (fun j hj hj2 => ?_) (fun k n0 => (lk_ne (by omega) (lk_ne (by omega) (hf0 k n0)))))
      · by_cases e : j = i - 1
        · subst e; obtain ⟨g1, g2⟩ := hhi i (by omega) (by omega); exact ⟨by rw [lk_eq, g1]; congr 1; omega, by rw [lk_eq, g2]; congr 1; omega⟩
        · obtain ⟨g1, g2⟩ := hlo j (by omega); exact ⟨(lk_ne e rfl).trans g1, (lk_ne e rfl).trans g2⟩
      · obtain ⟨g1, g2⟩ := hhi j (by omega) hj2; exact ⟨(lk_ne (by omega) rfl).trans g1, (lk_ne (by omega) rfl).trans g2⟩
set_option maxRecDepth 100000 in
set_option maxHeartbeats 4000000 in
theorem c_X3_dropOldest {l : Launch} {G : Gm} {c : HP} {o : List (Int × Int)} (hG : injG G) (hN : G.2.1 = 72) (hB : Ob G c o) (ho6 : o.length = 6) : AMet l G yX3_dropOldest cX3_dropOldest 2 (none) (rmR 0 0) [.ref (G.1 38)] c (Qv (fun c' => Ob G c' (o.drop 1) ∧ (∀ k, k < 38 ∨ 40 < k → c' k = c k))) := by
  refine AMet.of (vl := [some (.ref (G.1 38))]) (by decide) hG (Nat.le_of_ble_eq_true rfl) rfl ?_
  intro K X
  have X : Fx l G K cX3_dropOldest 2 RX3 (none) (rmR 0 0) := X
  obtain ⟨hh, hol, hor, F, V, h1, h2, hFV⟩ := hB
  have hB0 : Ob G c o := ⟨hh, hol, hor, F, V, h1, h2, hFV⟩
  refine A_iconst (q := 1) X dX3_dropOldest_0 rfl ?_
  refine A_istore_n (q := 2) X dX3_dropOldest_1 (by decide) (okP_s rfl rfl) rfl ?_
  exact AW.loc (sS rfl (sZ rfl (by omega) sE)) (lp_X3_dropOldest X hG hN ho6 hor hFV _ 1 F V c (Nat.lt_succ_self _) (by omega) hh h1 h2 (fun j hj => absurd hj (by omega)) (fun _ _ _ => ⟨rfl, rfl⟩) (fun _ _ => rfl))
def obA (o : List (Int × Int)) (q : Int × Int) : List (Int × Int) := (if o.length < 6 then o else o.drop 1) ++ [q]
set_option maxRecDepth 100000 in
set_option maxHeartbeats 4000000 in
theorem tl_X3_add {l : Launch} {G : Gm} {K : Cx} {c : HP} {o : List (Int × Int)} {n1 v1 : Int} (X : Fx l G K cX3_add 3 RX3 (none) (rmR 1 21)) (hG : injG G) (hN : G.2.1 = 72) (hB : Ob G c o) (ho5 : o.length < 6) (hn1 : 0 ≤ n1 ∧ n1 ≤ 50) (hv1 : 1 ≤ v1 ∧ v1 ≤ 200) : AW G K (Qv (fun c' => Ob G c' (o ++ [(n1, v1)]) ∧ (∀ k, k < 38 ∨ 40 < k → c' k = c k))) 13 (mkL [some (.ref (G.1 38)), some (.int (zI n1)), some (.int (zI v1))]) [] c := by
  obtain ⟨hh, hol, hor, F, V, h1, h2, hFV⟩ := hB
  have hB0 : Ob G c o := ⟨hh, hol, hor, F, V, h1, h2, hFV⟩
  refine A_aload_n (q := 14) X dX3_add_13 rfl rfl ?_
  refine A_getf (q := 17) X fX3_18 dX3_add_14 (by omega) hh rfl rfl ?_
  refine A_if_lt (q := 20) (t := 59) X dX3_add_17 (by omega) rfl rfl (fun hb17 => ?_) (fun hb17 => ?_)
  · exfalso
    omega
  · refine A_aload_n (q := 21) X dX3_add_20 rfl rfl ?_
    refine A_getf (q := 24) X fX3_18 dX3_add_21 (by omega) hh rfl rfl ?_
    refine A_bipush (q := 26) X dX3_add_24 (by decide) rfl ?_
    refine A_icmp_ge (q := 29) (t := 59) X dX3_add_26 (by omega) (by decide) rfl rfl (fun hb26 => ?_) (fun hb26 => ?_)
    · exfalso
      omega
    · refine A_aload_n (q := 30) X dX3_add_29 rfl rfl ?_
      refine A_getf (q := 33) X fX3_9 dX3_add_30 (by omega) hh rfl rfl ?_
      refine A_aload_n (q := 34) X dX3_add_33 rfl rfl ?_
      refine A_getf (q := 37) X fX3_18 dX3_add_34 (by omega) hh rfl rfl ?_
      refine A_iload_n (q := 38) X dX3_add_37 rfl rfl ?_
      refine A_iast (q := 39) (h := 39) (o.length) X dX3_add_38 (by omega) h1 (by omega) (by omega) (by decide) rfl ?_
      refine A_aload_n (q := 40) X dX3_add_39 rfl rfl ?_
      refine A_getf (q := 43) X fX3_15 dX3_add_40 (by omega) (lk_ne (by omega) hh) rfl rfl ?_
      refine A_aload_n (q := 44) X dX3_add_43 rfl rfl ?_
      refine A_getf (q := 47) X fX3_18 dX3_add_44 (by omega) (lk_ne (by omega) hh) rfl rfl ?_
      refine A_iload_n (q := 48) X dX3_add_47 rfl rfl ?_
      refine A_iast (q := 49) (h := 40) (o.length) X dX3_add_48 (by omega) (lk_ne (by omega) h2) (by omega) (by omega) (by decide) rfl ?_
      refine A_aload_n (q := 50) X dX3_add_49 rfl rfl ?_
      refine A_dup (q := 51) X dX3_add_50 rfl rfl ?_
      refine A_getf (q := 54) X fX3_18 dX3_add_51 (by omega) (lk_ne (by omega) (lk_ne (by omega) hh)) rfl rfl ?_
      refine A_iconst (q := 55) X dX3_add_54 rfl ?_
      refine A_iadd (q := 56) X dX3_add_55 rfl ?_
      refine A_putf (q := 59) X pX3_18 dX3_add_56 (by omega) (lk_ne (by omega) (lk_ne (by omega) hh)) (Nat.le_of_ble_eq_true rfl) rfl rfl rfl ?_
      refine A_return X dX3_add_59 ⟨⟨lk_eq.trans (by rw [List.length_append]; rfl), by rw [List.length_append]; show o.length + 1 ≤ 6; omega, ?_, _, _, (lk_ne (by omega) (lk_ne (by omega) lk_eq)), (lk_ne (by omega) lk_eq), fun k hk => ?_⟩, (fun k n0 => (lk_ne (by omega) (lk_ne (by omega) (lk_ne (by omega) rfl))))⟩
      · intro y hy
        rcases List.mem_append.mp hy with q | q
        · exact hor y q
        · have : y = (n1, v1) := by simpa using q
          rw [this]; exact ⟨hn1, hv1⟩
      · rw [List.length_append, List.length_singleton] at hk
        by_cases e : k = o.length
        · subst e; rw [lk_eq, lk_eq, getD2_ge]
        · rw [lk_ne e rfl, lk_ne e rfl, getD2_lt (by omega)]; exact hFV k (by omega)
theorem AW.mono {G : Gm} {K : Cx} {Q Q' : Option Value → HP → Prop} {pc : Nat} {L : Nat → Option Value} {st : List Value} {c : HP} (h : AW G K Q pc L st c) (hq : ∀ r c', Q r c' → Q' r c') : AW G K Q' pc L st c := by
  obtain ⟨p, l', e, R, s, m, args, below, meth, cd⟩ := K
  intro H locs ls hP hS hl T hT X
  obtain ⟨t, a, o, b1, b2, ⟨r, c', q1, q2, q3⟩, b4⟩ := h H locs ls hP hS hl T hT X
  exact ⟨t, a, o, b1, b2, ⟨r, c', q1, hq r c' q2, q3⟩, b4⟩
set_option maxRecDepth 100000 in
set_option maxHeartbeats 4000000 in
theorem c_X3_add {l : Launch} {G : Gm} {c : HP} {o : List (Int × Int)} {n1 v1 : Int} (hG : injG G) (hN : G.2.1 = 72) (hB : Ob G c o) (hn1 : 0 ≤ n1 ∧ n1 ≤ 50) (hv1 : 1 ≤ v1 ∧ v1 ≤ 200) : AMet l G yX3_add cX3_add 3 (none) (rmR 1 21) [.ref (G.1 38), .int (zI n1), .int (zI v1)] c (Qv (fun c' => Ob G c' (obA o (n1, v1)) ∧ (∀ k, k < 38 ∨ 40 < k → c' k = c k))) := by
  refine AMet.of (vl := [some (.ref (G.1 38)), some (.int (zI n1)), some (.int (zI v1))]) (by decide) hG (Nat.le_of_ble_eq_true rfl) rfl ?_
  intro K X
  have X : Fx l G K cX3_add 3 RX3 (none) (rmR 1 21) := X
  obtain ⟨hh, hol, hor, F, V, h1, h2, hFV⟩ := hB
  have hB0 : Ob G c o := ⟨hh, hol, hor, F, V, h1, h2, hFV⟩
  refine A_aload_n (q := 1) X dX3_add_0 rfl rfl ?_
  refine A_getf (q := 4) X fX3_18 dX3_add_1 (by omega) hh rfl rfl ?_
  refine A_bipush (q := 6) X dX3_add_4 (by decide) rfl ?_
  refine A_icmp_lt (q := 9) (t := 13) X dX3_add_6 (by omega) (by decide) rfl rfl (fun hb6 => ?_) (fun hb6 => ?_)
  · exact AW.loc (sS rfl (sS rfl (sS rfl sE))) (AW.mono (tl_X3_add X hG hN hB0 (by omega) hn1 hv1) (fun r c3 h => ⟨h.1, by unfold obA; rw [if_pos (by omega)]; exact h.2.1, h.2.2⟩))
  · refine A_aload_n (q := 10) X dX3_add_9 rfl rfl ?_
    refine A_V0v (q := 13) X (c_X3_dropOldest hG hN hB0 (by omega)) mX3_dropOldest kX3_22 dX3_add_10 (by omega) hh rfl (by decide) (Nat.le_of_ble_eq_true rfl) rfl (fun cq_2 hq_1 => ?_)
    obtain ⟨hB2, hf2⟩ := hq_1
    exact AW.loc (sS rfl (sS rfl (sS rfl sE))) (AW.mono (tl_X3_add X hG hN hB2 (by rw [List.length_drop]; omega) hn1 hv1) (fun r c3 h => ⟨h.1, by unfold obA; rw [if_neg (by omega)]; exact h.2.1, fun k n0 => (h.2.2 k n0).trans (hf2 k n0)⟩))
def obF (o : List (Int × Int)) (n : Int) : List (Int × Int) := o.filter (fun q => decide (q.1 ≤ n))
theorem obF_yes {o : List (Int × Int)} {n : Int} {i : Nat} (h : i < o.length) (h2 : (o.getD i (0, 0)).1 ≤ n) : obF (o.take (i + 1)) n = obF (o.take i) n ++ [o.getD i (0, 0)] := by
  unfold obF
  rw [take2_succ h, List.filter_append]
  congr 1
  generalize o.getD i (0, 0) = z at h2
  simp [List.filter, h2]
theorem obF_no {o : List (Int × Int)} {n : Int} {i : Nat} (h : i < o.length) (h2 : ¬ (o.getD i (0, 0)).1 ≤ n) : obF (o.take (i + 1)) n = obF (o.take i) n := by
  unfold obF
  rw [take2_succ h, List.filter_append]
  generalize o.getD i (0, 0) = z at h2
  simp [List.filter, h2]
theorem obF_len (o : List (Int × Int)) (n : Int) (i : Nat) : (obF (o.take i) n).length ≤ i := by
  have h1 := List.length_filter_le (fun q : Int × Int => decide (q.1 ≤ n)) (o.take i)
  rw [List.length_take] at h1
  unfold obF
  omega
set_option maxRecDepth 100000 in
set_option maxHeartbeats 4000000 in
theorem lp_X3_keepUpTo {l : Launch} {G : Gm} {K : Cx} {c0 : HP} {o : List (Int × Int)} {F V : Nat → Int} {n1 : Int} (X : Fx l G K cX3_keepUpTo 4 RX3 (none) (rmR 0 0)) (hG : injG G) (hN : G.2.1 = 72) (hol : o.length ≤ 6) (hor : ∀ q ∈ o, (0 ≤ q.1 ∧ q.1 ≤ 50) ∧ 1 ≤ q.2 ∧ q.2 ≤ 200) (hFV : ∀ k, k < o.length → o.getD k (0, 0) = (F k, V k)) (hn1 : 0 ≤ n1 ∧ n1 ≤ 50) : ∀ (n : Nat) (i : Nat) (A : Nat → Int) (B : Nat → Int) (c : HP), o.length - i < n → i ≤ o.length → c 38 = .inr (3, [.ref (G.1 39), .ref (G.1 40), .int (zI (o.length : Nat))]) → c 39 = aI G 6 A → c 40 = aI G 6 B → (∀ k, k < (obF (o.take i) n1).length → (obF (o.take i) n1).getD k (0, 0) = (A k, B k)) → (∀ j, i ≤ j → j < o.length → A j = F j ∧ B j = V j) → (∀ k, k < 38 ∨ 40 < k → c k = c0 k) → AW G K (Qv (fun c' => Ob G c' (obF o n1) ∧ (∀ k, k < 38 ∨ 40 < k → c' k = c0 k))) 4 (mkL [some (.ref (G.1 38)), some (.int (zI n1)), some (.int (zI (((obF (o.take i) n1).length : Nat) : Int))), some (.int (zI ((i : Nat) : Int)))]) [] c := by
  intro n
  induction n with
  | zero => intro i A B c hmz; exact absurd hmz (Nat.not_lt_zero _)
  | succ n ih =>
    intro i A B c hmz hi hh h1 h2 hlo hhi hf0
    refine A_iload_n (q := 5) X dX3_keepUpTo_4 rfl rfl ?_
    refine A_aload_n (q := 6) X dX3_keepUpTo_5 rfl rfl ?_
    refine A_getf (q := 9) X fX3_18 dX3_keepUpTo_6 (by omega) hh rfl rfl ?_
    refine A_icmp_ge (q := 12) (t := 55) X dX3_keepUpTo_9 (by omega) (by omega) rfl rfl (fun hb9 => ?_) (fun hb9 => ?_)
    · refine A_aload_n (q := 56) X dX3_keepUpTo_55 rfl rfl ?_
      refine A_iload_n (q := 57) X dX3_keepUpTo_56 rfl rfl ?_
      refine A_putf (q := 60) X pX3_18 dX3_keepUpTo_57 (by omega) hh (Nat.le_of_ble_eq_true rfl) rfl rfl rfl ?_
      have ei : i = o.length := by omega
      have eo : o.take i = o := by rw [ei]; exact List.take_length
      rw [eo] at hlo
      exact A_return X dX3_keepUpTo_60 ⟨⟨lk_eq.trans (by rw [eo]; rfl), Nat.le_trans (List.length_filter_le _ _) hol, fun q hq => hor q (List.mem_filter.mp hq).1, A, B, (lk_ne (by omega) h1), (lk_ne (by omega) h2), hlo⟩, fun k n0 => lk_ne (by omega) (hf0 k n0)⟩
    · have hFi := hFV i (by omega)
      have hoi := hor _ (getD2_mem (o := o) (k := i) (by omega))
      rw [hFi] at hoi
      obtain ⟨hA1, hB1⟩ := hhi i (Nat.le_refl _) (by omega)
      have hof := obF_len o n1 i
      refine A_aload_n (q := 13) X dX3_keepUpTo_12 rfl rfl ?_
      refine A_getf (q := 16) X fX3_9 dX3_keepUpTo_13 (by omega) hh rfl rfl ?_
      refine A_iload_n (q := 17) X dX3_keepUpTo_16 rfl rfl ?_
      refine A_iald (q := 18) (h := 39) (i) X dX3_keepUpTo_17 (by omega) h1 (by omega) (by omega) (by decide) rfl ?_
      refine A_iload_n (q := 19) X dX3_keepUpTo_18 rfl rfl ?_
      refine A_icmp_gt (q := 22) (t := 49) X dX3_keepUpTo_19 (by omega) (by omega) rfl rfl (fun hb19 => ?_) (fun hb19 => ?_)
      · refine A_iinc (q := 52) X dX3_keepUpTo_49 rfl (by decide) (okP_s rfl rfl) rfl ?_
        refine A_goto (q := 4) X dX3_keepUpTo_52 rfl ?_
        have ey := obF_no (n := n1) (i := i) (o := o) (by omega) (by rw [hFi]; omega)
        exact AW.loc (sS rfl (sS rfl (sZ rfl (by rw [ey]) (sZ rfl (by omega) sE)))) (ih (i + 1) A B c (by omega) (by omega) hh h1 h2 (by rw [ey]; exact hlo) (fun j hj hj2 => hhi j (by omega) hj2) hf0)
      · refine A_aload_n (q := 23) X dX3_keepUpTo_22 rfl rfl ?_
        refine A_getf (q := 26) X fX3_9 dX3_keepUpTo_23 (by omega) hh rfl rfl ?_
        refine A_iload_n (q := 27) X dX3_keepUpTo_26 rfl rfl ?_
        refine A_aload_n (q := 28) X dX3_keepUpTo_27 rfl rfl ?_
        refine A_getf (q := 31) X fX3_9 dX3_keepUpTo_28 (by omega) hh rfl rfl ?_
        refine A_iload_n (q := 32) X dX3_keepUpTo_31 rfl rfl ?_
        refine A_iald (q := 33) (h := 39) (i) X dX3_keepUpTo_32 (by omega) h1 (by omega) (by omega) (by decide) rfl ?_
        refine A_iast (q := 34) (h := 39) ((obF (o.take i) n1).length) X dX3_keepUpTo_33 (by omega) h1 (by omega) (by omega) (by decide) rfl ?_
        refine A_aload_n (q := 35) X dX3_keepUpTo_34 rfl rfl ?_
        refine A_getf (q := 38) X fX3_15 dX3_keepUpTo_35 (by omega) (lk_ne (by omega) hh) rfl rfl ?_
        refine A_iload_n (q := 39) X dX3_keepUpTo_38 rfl rfl ?_
        refine A_aload_n (q := 40) X dX3_keepUpTo_39 rfl rfl ?_
        refine A_getf (q := 43) X fX3_15 dX3_keepUpTo_40 (by omega) (lk_ne (by omega) hh) rfl rfl ?_
        refine A_iload_n (q := 44) X dX3_keepUpTo_43 rfl rfl ?_
        refine A_iald (q := 45) (h := 40) (i) X dX3_keepUpTo_44 (by omega) (lk_ne (by omega) h2) (by omega) (by omega) (by decide) rfl ?_
        refine A_iast (q := 46) (h := 40) ((obF (o.take i) n1).length) X dX3_keepUpTo_45 (by omega) (lk_ne (by omega) h2) (by omega) (by omega) (by decide) rfl ?_
        refine A_iinc (q := 49) X dX3_keepUpTo_46 rfl (by decide) (okP_s rfl rfl) rfl ?_
        refine A_iinc (q := 52) X dX3_keepUpTo_49 rfl (by decide) (okP_s rfl rfl) rfl ?_
        refine A_goto (q := 4) X dX3_keepUpTo_52 rfl ?_
        have ey := obF_yes (n := n1) (i := i) (o := o) (by omega) (by rw [hFi]; omega)
        have eyl : (obF (o.take (i + 1)) n1).length = (obF (o.take i) n1).length + 1 := by rw [ey, List.length_append]; rfl
        refine AW.loc (sS rfl (sS rfl (sZ rfl (by omega) (sZ rfl (by omega) sE)))) (ih (i + 1) _ _ _ (by omega) (by omega) ((lk_ne (by omega) (lk_ne (by omega) hh))) (lk_ne (by omega) lk_eq) (lk_eq) (fun j hj => ?_) (fun j hj hj2 => ?_) (fun k n0 => (lk_ne (by omega) (lk_ne (by omega) (hf0 k n0)))))
        · by_cases e : j = (obF (o.take i) n1).length
          · subst e; rw [lk_eq, lk_eq, ey, getD2_ge, hFi, (hhi i (Nat.le_refl _) (by omega)).1, (hhi i (Nat.le_refl _) (by omega)).2]
          · rw [lk_ne e rfl, lk_ne e rfl, ey, getD2_lt (by omega)]; exact hlo j (by omega)
        · obtain ⟨g1, g2⟩ := hhi j (by omega) hj2; exact ⟨(lk_ne (by omega) rfl).trans g1, (lk_ne (by omega) rfl).trans g2⟩
set_option maxRecDepth 100000 in
set_option maxHeartbeats 4000000 in
theorem c_X3_keepUpTo {l : Launch} {G : Gm} {c : HP} {o : List (Int × Int)} {n1 : Int} (hG : injG G) (hN : G.2.1 = 72) (hB : Ob G c o) (hn1 : 0 ≤ n1 ∧ n1 ≤ 50) : AMet l G yX3_keepUpTo cX3_keepUpTo 4 (none) (rmR 0 0) [.ref (G.1 38), .int (zI n1)] c (Qv (fun c' => Ob G c' (obF o n1) ∧ (∀ k, k < 38 ∨ 40 < k → c' k = c k))) := by
  refine AMet.of (vl := [some (.ref (G.1 38)), some (.int (zI n1))]) (by decide) hG (Nat.le_of_ble_eq_true rfl) rfl ?_
  intro K X
  have X : Fx l G K cX3_keepUpTo 4 RX3 (none) (rmR 0 0) := X
  obtain ⟨hh, hol, hor, F, V, h1, h2, hFV⟩ := hB
  have hB0 : Ob G c o := ⟨hh, hol, hor, F, V, h1, h2, hFV⟩
  refine A_iconst (q := 1) X dX3_keepUpTo_0 rfl ?_
  refine A_istore_n (q := 2) X dX3_keepUpTo_1 (by decide) (okP_s rfl rfl) rfl ?_
  refine A_iconst (q := 3) X dX3_keepUpTo_2 rfl ?_
  refine A_istore_n (q := 4) X dX3_keepUpTo_3 (by decide) (okP_s rfl rfl) rfl ?_
  exact AW.loc (sS rfl (sS rfl (sS rfl (sZ rfl (by omega) sE)))) (lp_X3_keepUpTo X hG hN hol hor hFV hn1 _ 0 F V c (Nat.lt_succ_self _) (by omega) hh h1 h2 (fun k hk => absurd hk (Nat.not_lt_zero k)) (fun _ _ _ => ⟨rfl, rfl⟩) (fun _ _ => rfl))
def gL : List (Int × Int) → Int → Int
  | [], m => m
  | q :: o, m => gL o (max m q.1)
theorem drop2_cons {o : List (Int × Int)} {i : Nat} (h : i < o.length) : o.drop i = o.getD i (0, 0) :: o.drop (i + 1) := by
  rw [nI_get h]
  exact List.drop_eq_getElem_cons h
set_option maxRecDepth 100000 in
set_option maxHeartbeats 4000000 in
theorem lp_X3_greatestLimit {l : Launch} {G : Gm} {K : Cx} {c : HP} {o : List (Int × Int)} {F V : Nat → Int} (X : Fx l G K cX3_greatestLimit 3 RX3 ((some .int)) (rmR 1 21)) (hG : injG G) (hN : G.2.1 = 72) (hh : c 38 = .inr (3, [.ref (G.1 39), .ref (G.1 40), .int (zI (o.length : Nat))])) (h1 : c 39 = aI G 6 F) (h2 : c 40 = aI G 6 V) (hol : o.length ≤ 6) (hor : ∀ q ∈ o, (0 ≤ q.1 ∧ q.1 ≤ 50) ∧ 1 ≤ q.2 ∧ q.2 ≤ 200) (hFV : ∀ k, k < o.length → o.getD k (0, 0) = (F k, V k)) : ∀ (n : Nat) (i : Nat) (m : Int), o.length - i < n → i ≤ o.length → 0 ≤ m ∧ m ≤ 50 → gL o 0 = gL (o.drop i) m → AW G K (Qi (fun v c' => v = zI (gL o 0) ∧ c' = c)) 4 (mkL [some (.ref (G.1 38)), some (.int (zI m)), some (.int (zI ((i : Nat) : Int)))]) [] c := by
  intro n
  induction n with
  | zero => intro i m hmz; exact absurd hmz (Nat.not_lt_zero _)
  | succ n ih =>
    intro i m hmz hi hm he
    refine A_iload_n (q := 5) X dX3_greatestLimit_4 rfl rfl ?_
    refine A_aload_n (q := 6) X dX3_greatestLimit_5 rfl rfl ?_
    refine A_getf (q := 9) X fX3_18 dX3_greatestLimit_6 (by omega) hh rfl rfl ?_
    refine A_icmp_ge (q := 12) (t := 29) X dX3_greatestLimit_9 (by omega) (by omega) rfl rfl (fun hb9 => ?_) (fun hb9 => ?_)
    · refine A_iload_n (q := 30) X dX3_greatestLimit_29 rfl rfl ?_
      exact A_ireturn X dX3_greatestLimit_30 ⟨by rw [he, List.drop_eq_nil_of_le (by omega)]; rfl, rfl⟩
    · have hFi := hFV i (by omega)
      have hoi := hor _ (getD2_mem (o := o) (k := i) (by omega))
      rw [hFi] at hoi
      have hoi2 : 0 ≤ F i ∧ F i ≤ 50 := hoi.1
      refine A_iload_n (q := 13) X dX3_greatestLimit_12 rfl rfl ?_
      refine A_aload_n (q := 14) X dX3_greatestLimit_13 rfl rfl ?_
      refine A_getf (q := 17) X fX3_9 dX3_greatestLimit_14 (by omega) hh rfl rfl ?_
      refine A_iload_n (q := 18) X dX3_greatestLimit_17 rfl rfl ?_
      refine A_iald (q := 19) (h := 39) (i) X dX3_greatestLimit_18 (by omega) h1 (by omega) (by omega) (by decide) rfl ?_
      refine A_mmax (q := 22) X dX3_greatestLimit_19 kX3_25 q_max1 q_math1 q_max2 (by omega) (by omega) (by decide) (Nat.le_of_ble_eq_true rfl) rfl ?_
      refine A_istore_n (q := 23) X dX3_greatestLimit_22 (by decide) (okP_s rfl rfl) rfl ?_
      refine A_iinc (q := 26) X dX3_greatestLimit_23 rfl (by decide) (okP_s rfl rfl) rfl ?_
      refine A_goto (q := 4) X dX3_greatestLimit_26 rfl ?_
      exact AW.loc (sS rfl (sZ rfl (by omega) (sZ rfl (by omega) sE))) (ih (i + 1) (max m (F i)) (by omega) (by omega) (by omega) (by rw [he, drop2_cons (by omega), hFi]; rfl))
set_option maxRecDepth 100000 in
set_option maxHeartbeats 4000000 in
theorem c_X3_greatestLimit {l : Launch} {G : Gm} {c : HP} {o : List (Int × Int)} (hG : injG G) (hN : G.2.1 = 72) (hB : Ob G c o) : AMet l G yX3_greatestLimit cX3_greatestLimit 3 ((some .int)) (rmR 1 21) [.ref (G.1 38)] c (Qi (fun v c' => v = zI (gL o 0) ∧ c' = c)) := by
  refine AMet.of (vl := [some (.ref (G.1 38))]) (by decide) hG (Nat.le_of_ble_eq_true rfl) rfl ?_
  intro K X
  have X : Fx l G K cX3_greatestLimit 3 RX3 ((some .int)) (rmR 1 21) := X
  obtain ⟨hh, hol, hor, F, V, h1, h2, hFV⟩ := hB
  have hB0 : Ob G c o := ⟨hh, hol, hor, F, V, h1, h2, hFV⟩
  refine A_iconst (q := 1) X dX3_greatestLimit_0 rfl ?_
  refine A_istore_n (q := 2) X dX3_greatestLimit_1 (by decide) (okP_s rfl rfl) rfl ?_
  refine A_iconst (q := 3) X dX3_greatestLimit_2 rfl ?_
  refine A_istore_n (q := 4) X dX3_greatestLimit_3 (by decide) (okP_s rfl rfl) rfl ?_
  exact AW.loc (sS rfl (sZ rfl (by omega) (sZ rfl (by omega) sE))) (lp_X3_greatestLimit X hG hN hh h1 h2 hol hor hFV _ 0 0 (Nat.lt_succ_self _) (Nat.zero_le _) (by decide) rfl)
set_option maxRecDepth 100000 in
set_option maxHeartbeats 4000000 in
theorem lp_X3_allow {l : Launch} {G : Gm} {K : Cx} {c : HP} {o : List (Int × Int)} {F V : Nat → Int} {lm sz : Int} (X : Fx l G K cX3_allow 4 RX3 ((some .boolean)) (rmR 0 0)) (hG : injG G) (hlm : rg lm) (hsz : rg sz) (hN : G.2.1 = 72) (hh : c 38 = .inr (3, [.ref (G.1 39), .ref (G.1 40), .int (zI (o.length : Nat))])) (h1 : c 39 = aI G 6 F) (h2 : c 40 = aI G 6 V) (hol : o.length ≤ 6) (hor : ∀ q ∈ o, (0 ≤ q.1 ∧ q.1 ≤ 50) ∧ 1 ≤ q.2 ∧ q.2 ≤ 200) (hFV : ∀ k, k < o.length → o.getD k (0, 0) = (F k, V k)) : ∀ (n : Nat) (i : Nat), o.length - i < n → i ≤ o.length → (∀ j, j < i → (o.getD j (0, 0)).1 = lm → (o.getD j (0, 0)).2 = sz) → AW G K (Qi (fun v c' => v = zI (if (∀ q ∈ o, q.1 = lm → q.2 = sz) then 1 else 0) ∧ c' = c)) 2 (mkL [some (.ref (G.1 38)), some (.int (zI lm)), some (.int (zI sz)), some (.int (zI ((i : Nat) : Int)))]) [] c := by
  intro n
  induction n with
  | zero => intro i hmz; exact absurd hmz (Nat.not_lt_zero _)
  | succ n ih =>
    intro i hmz hi hb
    refine A_iload_n (q := 3) X dX3_allow_2 rfl rfl ?_
    refine A_aload_n (q := 4) X dX3_allow_3 rfl rfl ?_
    refine A_getf (q := 7) X fX3_18 dX3_allow_4 (by omega) hh rfl rfl ?_
    refine A_icmp_ge (q := 10) (t := 38) X dX3_allow_7 (by omega) (by omega) rfl rfl (fun hb7 => ?_) (fun hb7 => ?_)
    · refine A_iconst (q := 39) X dX3_allow_38 rfl ?_
      refine A_zreturn X dX3_allow_39 (by decide) ⟨zb1 (fun q hq => ?_), rfl⟩
      obtain ⟨j, hj, rfl⟩ := List.getElem_of_mem hq
      have := hb j (by omega)
      rw [nI_get hj] at this
      exact this
    · have hFi := hFV i (by omega)
      have hoi := hor _ (getD2_mem (o := o) (k := i) (by omega))
      rw [hFi] at hoi
      have hoi2 : (0 ≤ F i ∧ F i ≤ 50) ∧ 1 ≤ V i ∧ V i ≤ 200 := hoi
      refine A_aload_n (q := 11) X dX3_allow_10 rfl rfl ?_
      refine A_getf (q := 14) X fX3_9 dX3_allow_11 (by omega) hh rfl rfl ?_
      refine A_iload_n (q := 15) X dX3_allow_14 rfl rfl ?_
      refine A_iald (q := 16) (h := 39) (i) X dX3_allow_15 (by omega) h1 (by omega) (by omega) (by decide) rfl ?_
      refine A_iload_n (q := 17) X dX3_allow_16 rfl rfl ?_
      refine A_icmp_ne (q := 20) (t := 32) X dX3_allow_17 (by omega) (by omega) rfl rfl (fun hb17 => ?_) (fun hb17 => ?_)
      · refine A_iinc (q := 35) X dX3_allow_32 rfl (by decide) (okP_s rfl rfl) rfl ?_
        refine A_goto (q := 2) X dX3_allow_35 rfl ?_
        exact AW.loc (sS rfl (sS rfl (sS rfl (sZ rfl (by omega) sE)))) (ih (i + 1) (by omega) (by omega) (lt_s hb (by rw [hFi]; show F i = lm → V i = sz; omega)))
      · refine A_aload_n (q := 21) X dX3_allow_20 rfl rfl ?_
        refine A_getf (q := 24) X fX3_15 dX3_allow_21 (by omega) hh rfl rfl ?_
        refine A_iload_n (q := 25) X dX3_allow_24 rfl rfl ?_
        refine A_iald (q := 26) (h := 40) (i) X dX3_allow_25 (by omega) h2 (by omega) (by omega) (by decide) rfl ?_
        refine A_iload_n (q := 27) X dX3_allow_26 rfl rfl ?_
        refine A_icmp_eq (q := 30) (t := 32) X dX3_allow_27 (by omega) (by omega) rfl rfl (fun hb27 => ?_) (fun hb27 => ?_)
        · refine A_iinc (q := 35) X dX3_allow_32 rfl (by decide) (okP_s rfl rfl) rfl ?_
          refine A_goto (q := 2) X dX3_allow_35 rfl ?_
          exact AW.loc (sS rfl (sS rfl (sS rfl (sZ rfl (by omega) sE)))) (ih (i + 1) (by omega) (by omega) (lt_s hb (by rw [hFi]; show F i = lm → V i = sz; omega)))
        · refine A_iconst (q := 31) X dX3_allow_30 rfl ?_
          refine A_zreturn X dX3_allow_31 (by decide) ⟨zb0 (fun h => ?_), rfl⟩
          have := h _ (getD2_mem (o := o) (k := i) (by omega))
          rw [hFi] at this
          have this : F i = lm → V i = sz := this
          omega
set_option maxRecDepth 100000 in
set_option maxHeartbeats 4000000 in
theorem c_X3_allow {l : Launch} {G : Gm} {c : HP} {o : List (Int × Int)} {lm sz : Int} (hG : injG G) (hN : G.2.1 = 72) (hB : Ob G c o) (hlm : rg lm) (hsz : rg sz) : AMet l G yX3_allow cX3_allow 4 ((some .boolean)) (rmR 0 0) [.ref (G.1 38), .int (zI lm), .int (zI sz)] c (Qi (fun v c' => v = zI (if (∀ q ∈ o, q.1 = lm → q.2 = sz) then 1 else 0) ∧ c' = c)) := by
  refine AMet.of (vl := [some (.ref (G.1 38)), some (.int (zI lm)), some (.int (zI sz))]) (by decide) hG (Nat.le_of_ble_eq_true rfl) rfl ?_
  intro K X
  have X : Fx l G K cX3_allow 4 RX3 ((some .boolean)) (rmR 0 0) := X
  obtain ⟨hh, hol, hor, F, V, h1, h2, hFV⟩ := hB
  have hB0 : Ob G c o := ⟨hh, hol, hor, F, V, h1, h2, hFV⟩
  refine A_iconst (q := 1) X dX3_allow_0 rfl ?_
  refine A_istore_n (q := 2) X dX3_allow_1 (by decide) (okP_s rfl rfl) rfl ?_
  exact AW.loc (sS rfl (sS rfl (sS rfl (sZ rfl (by omega) sE)))) (lp_X3_allow X hG hlm hsz hN hh h1 h2 hol hor hFV _ 0 (Nat.lt_succ_self _) (Nat.zero_le _) (fun j hj => absurd hj (Nat.not_lt_zero j)))
