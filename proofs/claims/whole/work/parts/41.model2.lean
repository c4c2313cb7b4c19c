/-! THE MODEL, second: redexes, strategies, the result row -/
theorem wfr_cut {l : List Int} {p : Nat} (h : wfr l [10] = some []) (hp : p < l.length) : ∃ c x post, l.drop p = x ++ post ∧ wfr x [c] = some [] ∧ en l p = p + x.length := by
  have e : l = l.take p ++ l.drop p := (List.take_append_drop p l).symm
  rw [e, wfr_app] at h
  cases h1 : wfr (l.take p) [10] with
  | none => rw [h1] at h; cases h
  | some cs =>
    rw [h1] at h
    have h : wfr (l.drop p) cs = some [] := h
    cases cs with
    | nil =>
      cases e9 : l.drop p with
      | nil =>
        rw [List.drop_eq_nil_iff] at e9
        omega
      | cons t r => rw [e9] at h; cases h
    | cons c cs =>
      obtain ⟨a, b, e1, h2, h3⟩ := wfr_split (l.drop p) [c] cs h
      refine ⟨c, a, b, e1, h2, ?_⟩
      unfold en
      rw [e1]
      exact congrArg (p + ·) (sk_wf a [c] b h2)
theorem Gd.tk {l : List Int} (h : Gd l) : ∀ t ∈ l, 0 ≤ t ∧ t ≤ 2000000 := fun t ht => by
  have := h.tok ht
  omega
/-- a redex inside ends inside -/
theorem rx_in {l : List Int} {p j : Nat} (h : Gd l) (hp : p < l.length) (hj : p < j) (hr : rx l j) (he : j < en l p) : j + 1 < en l p := by
  obtain ⟨c, x, post, e1, h1, e2⟩ := wfr_cut h.2.1 hp
  rw [e2] at he ⊢
  obtain ⟨i, rfl⟩ : ∃ i, j = p + i := ⟨j - p, by omega⟩
  have hi : i < x.length := by omega
  have e3 : x = x.take i ++ x.drop i := (List.take_append_drop i x).symm
  rw [e3, wfr_app] at h1
  cases h2 : wfr (x.take i) [c] with
  | none => rw [h2] at h1; cases h1
  | some cs =>
    rw [h2] at h1
    have h1 : wfr (x.drop i) cs = some [] := h1
    obtain ⟨hl, ht, -⟩ := rx_lt hr
    have e4 : x.drop i = l.getD (p + i) 0 :: x.drop (i + 1) := by
      have e5 : l.drop (p + i) = x.drop i ++ post := by
        rw [← List.drop_drop, e1, List.drop_append_of_le_length (by omega)]
      have e6 : x.drop i = x[i] :: x.drop (i + 1) := List.drop_eq_getElem_cons hi
      rw [e6, List.cons_append] at e5
      rw [(drop_hd e5).2.1]
      exact e6
    rw [e4, ht] at h1
    obtain ⟨c1, cs1, n, -, hn, h3⟩ := wfr_cons h1
    rw [nxt_1000] at hn
    cases hn
    have := wfr_le _ _ h3
    rw [List.length_append, List.length_drop] at this
    simp only [List.length_cons, List.length_nil] at this
    omega
theorem inn_iff {l : List Int} {p : Nat} (h : Gd l) (hr : rx l p) : inn l p ↔ ∀ j, j + 1 < en l p → p < j → ¬ rx l j :=
  ⟨fun q j h1 h2 => q.2 j (by omega) h2, fun q => ⟨hr, fun j h1 h2 h3 => q j (rx_in h (by have := rx_lt hr; omega) h2 h3 h1) h2 h3⟩⟩
theorem cnt_last (l : List Int) : cntP (rx l) l.length = cntP (rx l) (l.length - 1) := by
  rcases Nat.eq_zero_or_pos l.length with q | q
  · rw [q]
  · obtain ⟨m, hm⟩ : ∃ m, l.length = m + 1 := ⟨l.length - 1, by omega⟩
    rw [hm, Nat.add_sub_cancel]
    exact cntP_neg (fun h => by have := (rx_lt h).1; omega)
def chP (l : List Int) (s : Int) (p : Nat) : Int := if s = 0 then fnd (rx l) p else if s = 1 then fnd (inn l) p else if s = 2 then lst (rx l) p else fnd (whP l) p
abbrev hd_ (l : List Int) (p : Nat) : Prop := ∀ j, j < p → tokA l (j : Nat) = 1000
abbrev tkP (l : List Int) (s : Int) (p : Nat) : Prop := (s = 0 ∧ chP l s p = -9) ∨ (s = 1 ∧ chP l s p = -9 ∧ inn l p) ∨ s = 2 ∨ ((s ≠ 0 ∧ s ≠ 1 ∧ s ≠ 2) ∧ chP l s p = -9 ∧ hd_ l p)
theorem fnd_t {P : Nat → Prop} [DecidablePred P] {p : Nat} (h : P p) (h2 : fnd P p = -9) : fnd P (p + 1) = (p : Nat) := by
  show (if fnd P p ≠ -9 then fnd P p else if P p then (p : Nat) else -9) = _
  rw [if_neg (fun z => z h2), if_pos h]
theorem fnd_f {P : Nat → Prop} [DecidablePred P] {p : Nat} (h : P p → fnd P p ≠ -9) : fnd P (p + 1) = fnd P p := by
  show (if fnd P p ≠ -9 then fnd P p else if P p then (p : Nat) else -9) = _
  by_cases e : fnd P p = -9
  · rw [if_neg (fun z => z e), if_neg (fun z => h z e), e]
  · rw [if_pos e]
theorem chP_t {l : List Int} {s : Int} {p : Nat} (hr : rx l p) (h : tkP l s p) : chP l s (p + 1) = (p : Nat) := by
  unfold tkP chP at h
  unfold chP
  rcases h with ⟨rfl, h⟩ | ⟨rfl, h, hi⟩ | rfl | ⟨⟨h0, h1, h2⟩, h, hi⟩
  · exact fnd_t hr h
  · exact fnd_t hi h
  · show (if rx l p then ((p : Nat) : Int) else lst (rx l) p) = _
    exact if_pos hr
  · rw [if_neg h0, if_neg h1, if_neg h2] at h ⊢
    exact fnd_t ⟨hr, hi⟩ h
theorem chP_f {l : List Int} {s : Int} {p : Nat} (h : ¬ (rx l p ∧ tkP l s p)) : chP l s (p + 1) = chP l s p := by
  unfold tkP chP at h
  unfold chP
  by_cases h0 : s = 0
  · subst h0
    exact fnd_f (fun q z => h ⟨q, Or.inl ⟨rfl, z⟩⟩)
  · rw [if_neg h0, if_neg h0]
    rw [if_neg h0] at h
    by_cases h1 : s = 1
    · subst h1
      exact fnd_f (fun q z => h ⟨q.1, Or.inr (Or.inl ⟨rfl, z, q⟩)⟩)
    · rw [if_neg h1, if_neg h1]
      rw [if_neg h1] at h
      by_cases h2 : s = 2
      · subst h2
        show (if rx l p then ((p : Nat) : Int) else lst (rx l) p) = _
        exact if_neg (fun q => h ⟨q, Or.inr (Or.inr (Or.inl rfl))⟩)
      · rw [if_neg h2, if_neg h2]
        rw [if_neg h2] at h
        exact fnd_f (fun q z => h ⟨q.1, Or.inr (Or.inr (Or.inr ⟨⟨h0, h1, h2⟩, z, q.2⟩))⟩)
theorem chP_end {l : List Int} {s : Int} (hs : 0 ≤ s ∧ s < 4) (hl : 1 ≤ l.length) : chP l s (l.length - 1) = chz l s := by
  have e : chP l s (l.length - 1 + 1) = chP l s (l.length - 1) := chP_f (fun h => by have := (rx_lt h.1).1; omega)
  rw [← e, Nat.sub_add_cancel hl]
  unfold chP chz
  by_cases h0 : s = 0
  · rw [if_pos h0, if_pos h0]
  · rw [if_neg h0, if_neg h0]
    by_cases h1 : s = 1
    · rw [if_pos h1, if_pos h1]
    · rw [if_neg h1, if_neg h1]
      by_cases h2 : s = 2
      · rw [if_pos h2, if_pos h2]
      · rw [if_neg h2, if_neg h2, if_pos (by omega)]
theorem chP_rg {l : List Int} {s : Int} {p : Nat} : -9 ≤ chP l s p ∧ chP l s p ≤ (p : Nat) := by
  unfold chP
  split
  · rcases fnd_cases (rx l) p with ⟨h, -⟩ | ⟨k, h1, h2, -⟩ <;> omega
  · split
    · rcases fnd_cases (inn l) p with ⟨h, -⟩ | ⟨k, h1, h2, -⟩ <;> omega
    · split
      · rcases lst_cases (rx l) p with ⟨h, -⟩ | ⟨k, h1, h2, -⟩ <;> omega
      · rcases fnd_cases (whP l) p with ⟨h, -⟩ | ⟨k, h1, h2, -⟩ <;> omega
theorem hd_s {l : List Int} {p : Nat} (h : p < l.length) : hd_ l (p + 1) ↔ hd_ l p ∧ l.getD p 0 = 1000 := by
  have e : tokA l (p : Nat) = l.getD p 0 := tokA_in h
  refine ⟨fun q => ⟨fun j hj => q j (by omega), by rw [← e]; exact q p (by omega)⟩, fun q j hj => ?_⟩
  by_cases e2 : j = p
  · subst e2
    rw [e]; exact q.2
  · exact q.1 j (by omega)
set_option maxRecDepth 100000 in
set_option maxHeartbeats 4000000 in
theorem c_end {l : Launch} {G : Gm} {c : HP} {a : Nat} {l0 : List Int} {p : Nat} (hG : injG G) (hT : Mt G c a l0) (hgd : Gd l0) (hp : p < l0.length) : AMet l G yX9_end cX9_end 4 ((some .int)) (rmR 1 20) [.ref (G.1 a), .int (zI ((p : Nat) : Int))] c (Qi (fun v c' => v = zI ((en l0 p : Nat) : Int) ∧ c' = c)) := by
  refine AMet.of (vl := [some (.ref (G.1 a)), some (.int (zI ((p : Nat) : Int)))]) (by decide) hG (Nat.le_of_ble_eq_true rfl) rfl ?_
  intro K X
  have X : Fx l G K cX9_end 4 RX9 ((some .int)) (rmR 1 20) := X
  obtain ⟨ha0, hl0, F, ha, hS, hF⟩ := hT
  have hpos := hgd.pos
  obtain ⟨c1, x, post, hd, hw, he⟩ := wfr_cut hgd.2.1 hp
  refine A_iconst (q := 1) X dX9_end_0 rfl ?_
  refine A_istore_n (q := 2) X dX9_end_1 (by decide) (okP_s rfl rfl) rfl ?_
  refine A_iload_n (q := 3) X dX9_end_2 rfl rfl ?_
  refine A_istore_n (q := 4) X dX9_end_3 (by decide) (okP_s rfl rfl) rfl ?_
  rw [he]
  exact AW.loc (sS rfl (sS rfl (sZ rfl rfl (sZ rfl rfl sE)))) (lp_X9_end (s0 := p) X hG ha0 ha (by decide) (by omega) hF _ p [c1] x (Nat.lt_succ_self _) hd hw (fun t ht => hgd.tk t (List.mem_of_mem_drop (hd ▸ List.mem_append_left _ ht))) rfl)
set_option maxRecDepth 100000 in
set_option maxHeartbeats 4000000 in
theorem c_X9_isRedex {l : Launch} {G : Gm} {c : HP} {a : Nat} {l0 : List Int} {p : Nat} (hG : injG G) (hT : Mt G c a l0) (hgd : Gd l0) (hp : p + 1 < l0.length) : AMet l G yX9_isRedex cX9_isRedex 2 ((some .boolean)) (rmR 0 0) [.ref (G.1 a), .int (zI ((p : Nat) : Int))] c (Qi (fun v c' => v = zI (if rx l0 p then 1 else 0) ∧ c' = c)) := by
  refine AMet.of (vl := [some (.ref (G.1 a)), some (.int (zI ((p : Nat) : Int)))]) (by decide) hG (Nat.le_of_ble_eq_true rfl) rfl ?_
  intro K X
  have X : Fx l G K cX9_isRedex 2 RX9 ((some .boolean)) (rmR 0 0) := X
  obtain ⟨ha0, hl0, F, ha, hS, hF⟩ := hT
  have hpos := hgd.pos
  have hg1 := hgd.at (i := p) (by omega)
  have hg2 := hgd.at hp
  refine A_aload_n (q := 1) X dX9_isRedex_0 rfl rfl ?_
  refine A_iload_n (q := 2) X dX9_isRedex_1 rfl rfl ?_
  refine A_iald (q := 3) (h := a) (p) X dX9_isRedex_2 ha0 ha (by omega) (by omega) (by decide) rfl ?_
  rw [hF p (by omega)]
  refine A_sipush (q := 6) X dX9_isRedex_3 (by decide) rfl ?_
  refine A_icmp_ne (q := 9) (t := 24) X dX9_isRedex_6 (by omega) (by decide) rfl rfl (fun hb6 => ?_) (fun hb6 => ?_)
  · refine A_iconst (q := 25) X dX9_isRedex_24 rfl ?_
    exact A_zreturn X dX9_isRedex_25 (by decide) ⟨zb0 (by rw [rx_iff hp]; omega), rfl⟩
  · refine A_aload_n (q := 10) X dX9_isRedex_9 rfl rfl ?_
    refine A_iload_n (q := 11) X dX9_isRedex_10 rfl rfl ?_
    refine A_iconst (q := 12) X dX9_isRedex_11 rfl ?_
    refine A_iadd (q := 13) X dX9_isRedex_12 rfl ?_
    refine A_iald (q := 14) (h := a) ((p) + 1) X dX9_isRedex_13 ha0 ha (by omega) (by omega) (by decide) rfl ?_
    rw [hF (p + 1) (by omega)]
    refine A_sipush (q := 17) X dX9_isRedex_14 (by decide) rfl ?_
    refine A_icmp_ne (q := 20) (t := 24) X dX9_isRedex_17 (by omega) (by decide) rfl rfl (fun hb17 => ?_) (fun hb17 => ?_)
    · refine A_iconst (q := 25) X dX9_isRedex_24 rfl ?_
      exact A_zreturn X dX9_isRedex_25 (by decide) ⟨zb0 (by rw [rx_iff hp]; omega), rfl⟩
    · refine A_iconst (q := 21) X dX9_isRedex_20 rfl ?_
      refine A_goto (q := 25) X dX9_isRedex_21 rfl ?_
      exact A_zreturn X dX9_isRedex_25 (by decide) ⟨zb1 (by rw [rx_iff hp]; omega), rfl⟩
set_option maxRecDepth 100000 in
set_option maxHeartbeats 4000000 in
theorem lp_X9_redexes {l : Launch} {G : Gm} {K : Cx} {c : HP} {a : Nat} {l0 : List Int} {F : Nat → Int} (X : Fx l G K cX9_redexes 3 RX9 ((some .int)) (rmR 1 21)) (hG : injG G) (ha0 : a < G.2.1) (hl0 : l0.length ≤ 200) (ha : c a = aI G 201 F) (hS : F 200 = ((l0.length : Nat) : Int)) (hF : ∀ k, k < l0.length → F k = l0.getD k 0) (hgd : Gd l0) (hpos : 1 ≤ l0.length) : ∀ (n : Nat) (i : Nat), l0.length - i < n → i ≤ l0.length - 1 → AW G K (Qi (fun v c' => v = zI ((cntP (rx l0) l0.length : Nat) : Int) ∧ c' = c)) 4 (mkL [some (.ref (G.1 a)), some (.int (zI (((cntP (rx l0) i) : Nat) : Int))), some (.int (zI ((i : Nat) : Int)))]) [] c := by
  intro n
  induction n with
  | zero => intro i hmz; exact absurd hmz (Nat.not_lt_zero _)
  | succ n ih =>
    intro i hmz hi
    refine A_iload_n (q := 5) X dX9_redexes_4 rfl rfl ?_
    refine A_aload_n (q := 6) X dX9_redexes_5 rfl rfl ?_
    refine A_sipush (q := 9) X dX9_redexes_6 (by decide) rfl ?_
    refine A_iald (q := 10) (h := a) 200 X dX9_redexes_9 ha0 ha (by omega) (by omega) (by decide) rfl ?_
    rw [hS]
    refine A_iconst (q := 11) X dX9_redexes_10 rfl ?_
    refine A_isub (q := 12) X dX9_redexes_11 rfl ?_
    refine A_icmp_ge (q := 15) (t := 37) X dX9_redexes_12 (by omega) (by omega) rfl rfl (fun hb12 => ?_) (fun hb12 => ?_)
    · refine A_iload_n (q := 38) X dX9_redexes_37 rfl rfl ?_
      exact A_ireturn X dX9_redexes_38 ⟨by rw [cnt_last, show i = l0.length - 1 by omega], rfl⟩
    · refine A_iload_n (q := 16) X dX9_redexes_15 rfl rfl ?_
      refine A_aload_n (q := 17) X dX9_redexes_16 rfl rfl ?_
      refine A_iload_n (q := 18) X dX9_redexes_17 rfl rfl ?_
      refine A_S2i (q := 21) X (c_X9_isRedex (p := (i)) hG ⟨ha0, hl0, F, ha, hS, hF⟩ hgd (by omega)) mX9_isRedex kX9_72 dX9_redexes_18 (by decide) (Nat.le_of_ble_eq_true rfl) rfl (fun vq_3 cq_2 hq_1 => ?_)
      obtain ⟨rfl, hq_1⟩ := hq_1
      obtain rfl := hq_1.symm
      refine A_beq (q := 24) (t := 28) X dX9_redexes_21 rfl rfl (fun hb21 => ?_) (fun hb21 => ?_)
      · refine A_iconst (q := 29) X dX9_redexes_28 rfl ?_
        refine A_iadd (q := 30) X dX9_redexes_29 rfl ?_
        refine A_istore_n (q := 31) X dX9_redexes_30 (by decide) (okP_s rfl rfl) rfl ?_
        refine A_iinc (q := 34) X dX9_redexes_31 rfl (by decide) (okP_s rfl rfl) rfl ?_
        refine A_goto (q := 4) X dX9_redexes_34 rfl ?_
        exact AW.loc (sS rfl (sZ rfl (by first | (rw [cntP_pos hb21]; omega) | (rw [cntP_neg hb21]; omega)) (sZ rfl (by omega) sE))) (ih (i + 1) (by omega) (by omega))
      · refine A_iconst (q := 25) X dX9_redexes_24 rfl ?_
        refine A_goto (q := 29) X dX9_redexes_25 rfl ?_
        refine A_iadd (q := 30) X dX9_redexes_29 rfl ?_
        refine A_istore_n (q := 31) X dX9_redexes_30 (by decide) (okP_s rfl rfl) rfl ?_
        refine A_iinc (q := 34) X dX9_redexes_31 rfl (by decide) (okP_s rfl rfl) rfl ?_
        refine A_goto (q := 4) X dX9_redexes_34 rfl ?_
        exact AW.loc (sS rfl (sZ rfl (by first | (rw [cntP_pos hb21]; omega) | (rw [cntP_neg hb21]; omega)) (sZ rfl (by omega) sE))) (ih (i + 1) (by omega) (by omega))
set_option maxRecDepth 100000 in
set_option maxHeartbeats 4000000 in
theorem c_X9_redexes {l : Launch} {G : Gm} {c : HP} {a : Nat} {l0 : List Int} (hG : injG G) (hT : Mt G c a l0) (hgd : Gd l0) : AMet l G yX9_redexes cX9_redexes 3 ((some .int)) (rmR 1 21) [.ref (G.1 a)] c (Qi (fun v c' => v = zI ((cntP (rx l0) l0.length : Nat) : Int) ∧ c' = c)) := by
  refine AMet.of (vl := [some (.ref (G.1 a))]) (by decide) hG (Nat.le_of_ble_eq_true rfl) rfl ?_
  intro K X
  have X : Fx l G K cX9_redexes 3 RX9 ((some .int)) (rmR 1 21) := X
  obtain ⟨ha0, hl0, F, ha, hS, hF⟩ := hT
  have hpos := hgd.pos
  refine A_iconst (q := 1) X dX9_redexes_0 rfl ?_
  refine A_istore_n (q := 2) X dX9_redexes_1 (by decide) (okP_s rfl rfl) rfl ?_
  refine A_iconst (q := 3) X dX9_redexes_2 rfl ?_
  refine A_istore_n (q := 4) X dX9_redexes_3 (by decide) (okP_s rfl rfl) rfl ?_
  exact AW.loc (sS rfl (sZ rfl rfl (sZ rfl rfl sE))) (lp_X9_redexes X hG ha0 hl0 ha hS hF hgd hpos _ 0 (Nat.lt_succ_self _) (Nat.zero_le _))
set_option maxRecDepth 100000 in
set_option maxHeartbeats 4000000 in
theorem lp_X9_isInnermost {l : Launch} {G : Gm} {K : Cx} {c : HP} {a : Nat} {l0 : List Int} {F : Nat → Int} {p : Nat} (X : Fx l G K cX9_isInnermost 4 RX9 ((some .boolean)) (rmR 2 43)) (hG : injG G) (ha0 : a < G.2.1) (hl0 : l0.length ≤ 200) (ha : c a = aI G 201 F) (hS : F 200 = ((l0.length : Nat) : Int)) (hF : ∀ k, k < l0.length → F k = l0.getD k 0) (hgd : Gd l0) (hpos : 1 ≤ l0.length) (hp : p < l0.length) (hen : p < en l0 p ∧ en l0 p ≤ l0.length) : ∀ (n : Nat) (i : Nat), 1000 - i < n → p < i ∧ i ≤ 201 → (∀ j, j < i → p < j → ¬ rx l0 j) → AW G K (Qi (fun v c' => v = zI (if (∀ j, j < en l0 p - 1 → p < j → ¬ rx l0 j) then 1 else 0) ∧ c' = c)) 10 (mkL [some (.ref (G.1 a)), some (.int (zI ((p : Nat) : Int))), some (.int (zI (((en l0 p) : Nat) : Int))), some (.int (zI ((i : Nat) : Int)))]) [] c := by
  intro n
  induction n with
  | zero => intro i hmz; exact absurd hmz (Nat.not_lt_zero _)
  | succ n ih =>
    intro i hmz hi hn
    refine A_iload_n (q := 11) X dX9_isInnermost_10 rfl rfl ?_
    refine A_iload_n (q := 12) X dX9_isInnermost_11 rfl rfl ?_
    refine A_iconst (q := 13) X dX9_isInnermost_12 rfl ?_
    refine A_isub (q := 14) X dX9_isInnermost_13 rfl ?_
    refine A_icmp_ge (q := 17) (t := 33) X dX9_isInnermost_14 (by omega) (by omega) rfl rfl (fun hb14 => ?_) (fun hb14 => ?_)
    · refine A_iconst (q := 34) X dX9_isInnermost_33 rfl ?_
      exact A_zreturn X dX9_isInnermost_34 (by decide) ⟨zb1 (fun j h1 h2 => hn j (by omega) h2), rfl⟩
    · refine A_aload_n (q := 18) X dX9_isInnermost_17 rfl rfl ?_
      refine A_iload_n (q := 19) X dX9_isInnermost_18 rfl rfl ?_
      refine A_S2i (q := 22) X (c_X9_isRedex (p := (i)) hG ⟨ha0, hl0, F, ha, hS, hF⟩ hgd (by omega)) mX9_isRedex kX9_72 dX9_isInnermost_19 (by decide) (Nat.le_of_ble_eq_true rfl) rfl (fun vq_3 cq_2 hq_1 => ?_)
      obtain ⟨rfl, hq_1⟩ := hq_1
      obtain rfl := hq_1.symm
      refine A_beq (q := 25) (t := 27) X dX9_isInnermost_22 rfl rfl (fun hb22 => ?_) (fun hb22 => ?_)
      · refine A_iinc (q := 30) X dX9_isInnermost_27 rfl (by decide) (okP_s rfl rfl) rfl ?_
        refine A_goto (q := 10) X dX9_isInnermost_30 rfl ?_
        exact AW.loc (sS rfl (sS rfl (sS rfl (sZ rfl (by omega) sE)))) (ih (i + 1) (by omega) (by omega) (fun j h1 h2 => by by_cases e : j = i; (subst e; exact hb22); exact hn j (by omega) h2))
      · refine A_iconst (q := 26) X dX9_isInnermost_25 rfl ?_
        exact A_zreturn X dX9_isInnermost_26 (by decide) ⟨zb0 (fun q => q i (by omega) (by omega) hb22), rfl⟩
set_option maxRecDepth 100000 in
set_option maxHeartbeats 4000000 in
theorem c_X9_isInnermost {l : Launch} {G : Gm} {c : HP} {a : Nat} {l0 : List Int} {p : Nat} (hG : injG G) (hT : Mt G c a l0) (hgd : Gd l0) (hp : p < l0.length) : AMet l G yX9_isInnermost cX9_isInnermost 4 ((some .boolean)) (rmR 2 43) [.ref (G.1 a), .int (zI ((p : Nat) : Int))] c (Qi (fun v c' => v = zI (if (∀ j, j < en l0 p - 1 → p < j → ¬ rx l0 j) then 1 else 0) ∧ c' = c)) := by
  refine AMet.of (vl := [some (.ref (G.1 a)), some (.int (zI ((p : Nat) : Int)))]) (by decide) hG (Nat.le_of_ble_eq_true rfl) rfl ?_
  intro K X
  have X : Fx l G K cX9_isInnermost 4 RX9 ((some .boolean)) (rmR 2 43) := X
  obtain ⟨ha0, hl0, F, ha, hS, hF⟩ := hT
  have hpos := hgd.pos
  refine A_aload_n (q := 1) X dX9_isInnermost_0 rfl rfl ?_
  refine A_iload_n (q := 2) X dX9_isInnermost_1 rfl rfl ?_
  refine A_S2i (q := 5) X (c_end (p := (p)) hG ⟨ha0, hl0, F, ha, hS, hF⟩ hgd (by omega)) mX9_end kX9_76 dX9_isInnermost_2 (by decide) (Nat.le_of_ble_eq_true rfl) rfl (fun vq_3 cq_2 hq_1 => ?_)
  obtain ⟨rfl, hq_1⟩ := hq_1
  obtain rfl := hq_1.symm
  refine A_istore_n (q := 6) X dX9_isInnermost_5 (by decide) (okP_s rfl rfl) rfl ?_
  refine A_iload_n (q := 7) X dX9_isInnermost_6 rfl rfl ?_
  refine A_iconst (q := 8) X dX9_isInnermost_7 rfl ?_
  refine A_iadd (q := 9) X dX9_isInnermost_8 rfl ?_
  refine A_istore_n (q := 10) X dX9_isInnermost_9 (by decide) (okP_s rfl rfl) rfl ?_
  exact AW.loc (sS rfl (sS rfl (sS rfl (sZ rfl (by omega) sE)))) (lp_X9_isInnermost X hG ha0 hl0 ha hS hF hgd hpos hp ⟨en_gt hp, en_le (by omega)⟩ _ (p + 1) (Nat.lt_succ_self _) (by omega) (fun j h1 h2 => by omega))
set_option maxRecDepth 100000 in
set_option maxHeartbeats 4000000 in
theorem lp_X9_choose {l : Launch} {G : Gm} {K : Cx} {c : HP} {a : Nat} {l0 : List Int} {F : Nat → Int} {s : Int} (X : Fx l G K cX9_choose 7 RX9 ((some .int)) (rmR 3 66)) (hG : injG G) (ha0 : a < G.2.1) (hl0 : l0.length ≤ 200) (ha : c a = aI G 201 F) (hS : F 200 = ((l0.length : Nat) : Int)) (hF : ∀ k, k < l0.length → F k = l0.getD k 0) (hgd : Gd l0) (hpos : 1 ≤ l0.length) (hs : 0 ≤ s ∧ s < 4) : ∀ (n : Nat) (i : Nat), 1000 - i < n → i ≤ l0.length - 1 → AW G K (Qi (fun v c' => v = zI (chz l0 s) ∧ c' = c)) 8 (mkL [some (.ref (G.1 a)), some (.int (zI s)), some (.int (zI (chP l0 s i))), some (.int (zI (if hd_ l0 i then 1 else 0 : Int))), some (.int (zI ((i : Nat) : Int))), none, none]) [] c := by
  intro n
  induction n with
  | zero => intro i hmz; exact absurd hmz (Nat.not_lt_zero _)
  | succ n ih =>
    intro i hmz hi
    refine A_iload (q := 10) X dX9_choose_8 rfl rfl ?_
    refine A_aload_n (q := 11) X dX9_choose_10 rfl rfl ?_
    refine A_sipush (q := 14) X dX9_choose_11 (by decide) rfl ?_
    refine A_iald (q := 15) (h := a) 200 X dX9_choose_14 ha0 ha (by omega) (by omega) (by decide) rfl ?_
    rw [hS]
    refine A_iconst (q := 16) X dX9_choose_15 rfl ?_
    refine A_isub (q := 17) X dX9_choose_16 rfl ?_
    refine A_icmp_ge (q := 20) (t := 137) X dX9_choose_17 (by omega) (by omega) rfl rfl (fun hb17 => ?_) (fun hb17 => ?_)
    · refine A_iload_n (q := 138) X dX9_choose_137 rfl rfl ?_
      exact A_ireturn X dX9_choose_138 ⟨by rw [← chP_end hs hpos, show i = l0.length - 1 by omega], rfl⟩
    · refine A_aload_n (q := 21) X dX9_choose_20 rfl rfl ?_
      refine A_iload (q := 23) X dX9_choose_21 rfl rfl ?_
      refine A_S2i (q := 26) X (c_X9_isRedex (p := (i)) hG ⟨ha0, hl0, F, ha, hS, hF⟩ hgd (by omega)) mX9_isRedex kX9_72 dX9_choose_23 (by decide) (Nat.le_of_ble_eq_true rfl) rfl (fun vq_3 cq_2 hq_1 => ?_)
      obtain ⟨rfl, hq_1⟩ := hq_1
      obtain rfl := hq_1.symm
      refine A_beq (q := 29) (t := 111) X dX9_choose_26 rfl rfl (fun hb26 => ?_) (fun hb26 => ?_)
      · refine A_iload_n (q := 112) X dX9_choose_111 rfl rfl ?_
        refine A_beq (q := 115) (t := 129) X dX9_choose_112 rfl rfl (fun hb112 => ?_) (fun hb112 => ?_)
        · refine A_iconst (q := 130) X dX9_choose_129 rfl ?_
          refine A_istore_n (q := 131) X dX9_choose_130 (by decide) (okP_s rfl rfl) rfl ?_
          refine A_iinc (q := 134) X dX9_choose_131 rfl (by decide) (okP_s rfl rfl) rfl ?_
          refine A_goto (q := 8) X dX9_choose_134 rfl ?_
          have ef := chP_f (l := l0) (s := s) (p := i) (fun q => hb26 q.1)
          have eh : (zI 0) = zI (if hd_ l0 (i + 1) then 1 else 0) := (show zI 0 = zI (if hd_ l0 (i + 1) then 1 else 0) from zb0 (fun q => by have := (hd_s (by omega)).mp q; first | omega | exact (by assumption : ¬ hd_ l0 i) this.1))
          exact AW.loc (sS rfl (sS rfl (sZ rfl ef.symm (sS (congrArg (fun z => some (Value.int z)) eh) (sZ rfl (by omega) (sN (sN sE))))))) (ih (i + 1) (by omega) (by omega))
        · refine A_aload_n (q := 116) X dX9_choose_115 rfl rfl ?_
          refine A_iload (q := 118) X dX9_choose_116 rfl rfl ?_
          refine A_iald (q := 119) (h := a) (i) X dX9_choose_118 ha0 ha (by omega) (by omega) (by decide) rfl ?_
          rw [hF i (by omega)]
          have hgi := hgd.at (i := i) (by omega)
          refine A_sipush (q := 122) X dX9_choose_119 (by decide) rfl ?_
          refine A_icmp_ne (q := 125) (t := 129) X dX9_choose_122 (by omega) (by decide) rfl rfl (fun hb122 => ?_) (fun hb122 => ?_)
          · refine A_iconst (q := 130) X dX9_choose_129 rfl ?_
            refine A_istore_n (q := 131) X dX9_choose_130 (by decide) (okP_s rfl rfl) rfl ?_
            refine A_iinc (q := 134) X dX9_choose_131 rfl (by decide) (okP_s rfl rfl) rfl ?_
            refine A_goto (q := 8) X dX9_choose_134 rfl ?_
            have ef := chP_f (l := l0) (s := s) (p := i) (fun q => hb26 q.1)
            have eh : (zI 0) = zI (if hd_ l0 (i + 1) then 1 else 0) := (show zI 0 = zI (if hd_ l0 (i + 1) then 1 else 0) from zb0 (fun q => by have := (hd_s (by omega)).mp q; first | omega | exact (by assumption : ¬ hd_ l0 i) this.1))
            exact AW.loc (sS rfl (sS rfl (sZ rfl ef.symm (sS (congrArg (fun z => some (Value.int z)) eh) (sZ rfl (by omega) (sN (sN sE))))))) (ih (i + 1) (by omega) (by omega))
          · refine A_iconst (q := 126) X dX9_choose_125 rfl ?_
            refine A_goto (q := 130) X dX9_choose_126 rfl ?_
            refine A_istore_n (q := 131) X dX9_choose_130 (by decide) (okP_s rfl rfl) rfl ?_
            refine A_iinc (q := 134) X dX9_choose_131 rfl (by decide) (okP_s rfl rfl) rfl ?_
            refine A_goto (q := 8) X dX9_choose_134 rfl ?_
            have ef := chP_f (l := l0) (s := s) (p := i) (fun q => hb26 q.1)
            have eh : (zI 1) = zI (if hd_ l0 (i + 1) then 1 else 0) := (show zI 1 = zI (if hd_ l0 (i + 1) then 1 else 0) from zb1 ((hd_s (by omega)).mpr ⟨by assumption, by omega⟩))
            exact AW.loc (sS rfl (sS rfl (sZ rfl ef.symm (sS (congrArg (fun z => some (Value.int z)) eh) (sZ rfl (by omega) (sN (sN sE))))))) (ih (i + 1) (by omega) (by omega))
      · have hcr := chP_rg (l := l0) (s := s) (p := i)
        refine A_iload_n (q := 30) X dX9_choose_29 rfl rfl ?_
        refine A_bipush (q := 32) X dX9_choose_30 (by decide) rfl ?_
        refine A_icmp_ne (q := 35) (t := 39) X dX9_choose_32 (by omega) (by decide) rfl rfl (fun hb32 => ?_) (fun hb32 => ?_)
        · refine A_iconst (q := 40) X dX9_choose_39 rfl ?_
          refine A_istore (q := 42) X dX9_choose_40 (by decide) (okP_s rfl rfl) rfl ?_
          refine A_iload_n (q := 43) X dX9_choose_42 rfl rfl ?_
          refine A_if_ne (q := 46) (t := 51) X dX9_choose_43 (by omega) rfl rfl (fun hb43 => ?_) (fun hb43 => ?_)
          · refine A_iload_n (q := 52) X dX9_choose_51 rfl rfl ?_
            refine A_iconst (q := 53) X dX9_choose_52 rfl ?_
            refine A_icmp_ne (q := 56) (t := 78) X dX9_choose_53 (by omega) (by decide) rfl rfl (fun hb53 => ?_) (fun hb53 => ?_)
            · refine A_iload_n (q := 79) X dX9_choose_78 rfl rfl ?_
              refine A_iconst (q := 80) X dX9_choose_79 rfl ?_
              refine A_icmp_eq (q := 83) (t := 92) X dX9_choose_80 (by omega) (by decide) rfl rfl (fun hb80 => ?_) (fun hb80 => ?_)
              · refine A_iconst (q := 93) X dX9_choose_92 rfl ?_
                refine A_goto (q := 97) X dX9_choose_93 rfl ?_
                refine A_istore (q := 99) X dX9_choose_97 (by decide) (okP_s rfl rfl) rfl ?_
                refine A_iload (q := 101) X dX9_choose_99 rfl rfl ?_
                refine A_if_eq (q := 104) (t := 109) X dX9_choose_101 (by decide) rfl rfl (fun hb101 => ?_) (fun hb101 => ?_)
                · exact absurd hb101 (by decide)
                · refine A_iload (q := 106) X dX9_choose_104 rfl rfl ?_
                  refine A_goto (q := 110) X dX9_choose_106 rfl ?_
                  refine A_istore_n (q := 111) X dX9_choose_110 (by decide) (okP_s rfl rfl) rfl ?_
                  refine A_iload_n (q := 112) X dX9_choose_111 rfl rfl ?_
                  refine A_beq (q := 115) (t := 129) X dX9_choose_112 rfl rfl (fun hb112 => ?_) (fun hb112 => ?_)
                  · refine A_iconst (q := 130) X dX9_choose_129 rfl ?_
                    refine A_istore_n (q := 131) X dX9_choose_130 (by decide) (okP_s rfl rfl) rfl ?_
                    refine A_iinc (q := 134) X dX9_choose_131 rfl (by decide) (okP_s rfl rfl) rfl ?_
                    refine A_goto (q := 8) X dX9_choose_134 rfl ?_
                    have ef := chP_t (l := l0) (s := s) (p := i) hb26 (by first | exact Or.inl ⟨by omega, by omega⟩ | exact Or.inr (Or.inl ⟨by omega, by omega, (inn_iff hgd hb26).mpr (fun j h1 h2 => hb67 j (by omega) h2)⟩) | exact Or.inr (Or.inr (Or.inl (by omega))) | exact Or.inr (Or.inr (Or.inr ⟨by omega, by omega, hb89⟩)))
                    have eh : (zI 0) = zI (if hd_ l0 (i + 1) then 1 else 0) := (show zI 0 = zI (if hd_ l0 (i + 1) then 1 else 0) from zb0 (fun q => by have := (hd_s (by omega)).mp q; first | omega | exact (by assumption : ¬ hd_ l0 i) this.1))
                    exact AW.loc (sS rfl (sS rfl (sZ rfl ef.symm (sS (congrArg (fun z => some (Value.int z)) eh) (sZ rfl (by omega) (sN (sN sE))))))) (ih (i + 1) (by omega) (by omega))
                  · refine A_aload_n (q := 116) X dX9_choose_115 rfl rfl ?_
                    refine A_iload (q := 118) X dX9_choose_116 rfl rfl ?_
                    refine A_iald (q := 119) (h := a) (i) X dX9_choose_118 ha0 ha (by omega) (by omega) (by decide) rfl ?_
                    rw [hF i (by omega)]
                    have hgi := hgd.at (i := i) (by omega)
                    refine A_sipush (q := 122) X dX9_choose_119 (by decide) rfl ?_
                    refine A_icmp_ne (q := 125) (t := 129) X dX9_choose_122 (by omega) (by decide) rfl rfl (fun hb122 => ?_) (fun hb122 => ?_)
                    · refine A_iconst (q := 130) X dX9_choose_129 rfl ?_
                      refine A_istore_n (q := 131) X dX9_choose_130 (by decide) (okP_s rfl rfl) rfl ?_
                      refine A_iinc (q := 134) X dX9_choose_131 rfl (by decide) (okP_s rfl rfl) rfl ?_
                      refine A_goto (q := 8) X dX9_choose_134 rfl ?_
                      have ef := chP_t (l := l0) (s := s) (p := i) hb26 (by first | exact Or.inl ⟨by omega, by omega⟩ | exact Or.inr (Or.inl ⟨by omega, by omega, (inn_iff hgd hb26).mpr (fun j h1 h2 => hb67 j (by omega) h2)⟩) | exact Or.inr (Or.inr (Or.inl (by omega))) | exact Or.inr (Or.inr (Or.inr ⟨by omega, by omega, hb89⟩)))
                      have eh : (zI 0) = zI (if hd_ l0 (i + 1) then 1 else 0) := (show zI 0 = zI (if hd_ l0 (i + 1) then 1 else 0) from zb0 (fun q => by have := (hd_s (by omega)).mp q; first | omega | exact (by assumption : ¬ hd_ l0 i) this.1))
                      exact AW.loc (sS rfl (sS rfl (sZ rfl ef.symm (sS (congrArg (fun z => some (Value.int z)) eh) (sZ rfl (by omega) (sN (sN sE))))))) (ih (i + 1) (by omega) (by omega))
                    · refine A_iconst (q := 126) X dX9_choose_125 rfl ?_
                      refine A_goto (q := 130) X dX9_choose_126 rfl ?_
                      refine A_istore_n (q := 131) X dX9_choose_130 (by decide) (okP_s rfl rfl) rfl ?_
                      refine A_iinc (q := 134) X dX9_choose_131 rfl (by decide) (okP_s rfl rfl) rfl ?_
                      refine A_goto (q := 8) X dX9_choose_134 rfl ?_
                      have ef := chP_t (l := l0) (s := s) (p := i) hb26 (by first | exact Or.inl ⟨by omega, by omega⟩ | exact Or.inr (Or.inl ⟨by omega, by omega, (inn_iff hgd hb26).mpr (fun j h1 h2 => hb67 j (by omega) h2)⟩) | exact Or.inr (Or.inr (Or.inl (by omega))) | exact Or.inr (Or.inr (Or.inr ⟨by omega, by omega, hb89⟩)))
                      have eh : (zI 1) = zI (if hd_ l0 (i + 1) then 1 else 0) := (show zI 1 = zI (if hd_ l0 (i + 1) then 1 else 0) from zb1 ((hd_s (by omega)).mpr ⟨by assumption, by omega⟩))
                      exact AW.loc (sS rfl (sS rfl (sZ rfl ef.symm (sS (congrArg (fun z => some (Value.int z)) eh) (sZ rfl (by omega) (sN (sN sE))))))) (ih (i + 1) (by omega) (by omega))
              · refine A_iload (q := 85) X dX9_choose_83 rfl rfl ?_
                refine A_if_eq (q := 88) (t := 96) X dX9_choose_85 (by decide) rfl rfl (fun hb85 => ?_) (fun hb85 => ?_)
                · refine A_iconst (q := 97) X dX9_choose_96 rfl ?_
                  refine A_istore (q := 99) X dX9_choose_97 (by decide) (okP_s rfl rfl) rfl ?_
                  refine A_iload (q := 101) X dX9_choose_99 rfl rfl ?_
                  refine A_if_eq (q := 104) (t := 109) X dX9_choose_101 (by decide) rfl rfl (fun hb101 => ?_) (fun hb101 => ?_)
                  · refine A_iload_n (q := 110) X dX9_choose_109 rfl rfl ?_
                    refine A_istore_n (q := 111) X dX9_choose_110 (by decide) (okP_s rfl rfl) rfl ?_
                    refine A_iload_n (q := 112) X dX9_choose_111 rfl rfl ?_
                    refine A_beq (q := 115) (t := 129) X dX9_choose_112 rfl rfl (fun hb112 => ?_) (fun hb112 => ?_)
                    · refine A_iconst (q := 130) X dX9_choose_129 rfl ?_
                      refine A_istore_n (q := 131) X dX9_choose_130 (by decide) (okP_s rfl rfl) rfl ?_
                      refine A_iinc (q := 134) X dX9_choose_131 rfl (by decide) (okP_s rfl rfl) rfl ?_
                      refine A_goto (q := 8) X dX9_choose_134 rfl ?_
                      have ef := chP_f (l := l0) (s := s) (p := i) (fun q => by rcases q.2 with ⟨q1, q2⟩ | ⟨q1, q2, q3⟩ | q1 | ⟨q1, q2, q3⟩ <;> first | omega | exact hb67 (fun j h1 h2 => (inn_iff hgd hb26).mp q3 j (by omega) h2) | exact hb89 q3)
                      have eh : (zI 0) = zI (if hd_ l0 (i + 1) then 1 else 0) := (show zI 0 = zI (if hd_ l0 (i + 1) then 1 else 0) from zb0 (fun q => by have := (hd_s (by omega)).mp q; first | omega | exact (by assumption : ¬ hd_ l0 i) this.1))
                      exact AW.loc (sS rfl (sS rfl (sZ rfl ef.symm (sS (congrArg (fun z => some (Value.int z)) eh) (sZ rfl (by omega) (sN (sN sE))))))) (ih (i + 1) (by omega) (by omega))
                    · refine A_aload_n (q := 116) X dX9_choose_115 rfl rfl ?_
                      refine A_iload (q := 118) X dX9_choose_116 rfl rfl ?_
                      refine A_iald (q := 119) (h := a) (i) X dX9_choose_118 ha0 ha (by omega) (by omega) (by decide) rfl ?_
                      rw [hF i (by omega)]
                      have hgi := hgd.at (i := i) (by omega)
                      refine A_sipush (q := 122) X dX9_choose_119 (by decide) rfl ?_
                      refine A_icmp_ne (q := 125) (t := 129) X dX9_choose_122 (by omega) (by decide) rfl rfl (fun hb122 => ?_) (fun hb122 => ?_)
                      · refine A_iconst (q := 130) X dX9_choose_129 rfl ?_
                        refine A_istore_n (q := 131) X dX9_choose_130 (by decide) (okP_s rfl rfl) rfl ?_
                        refine A_iinc (q := 134) X dX9_choose_131 rfl (by decide) (okP_s rfl rfl) rfl ?_
                        refine A_goto (q := 8) X dX9_choose_134 rfl ?_
                        have ef := chP_f (l := l0) (s := s) (p := i) (fun q => by rcases q.2 with ⟨q1, q2⟩ | ⟨q1, q2, q3⟩ | q1 | ⟨q1, q2, q3⟩ <;> first | omega | exact hb67 (fun j h1 h2 => (inn_iff hgd hb26).mp q3 j (by omega) h2) | exact hb89 q3)
                        have eh : (zI 0) = zI (if hd_ l0 (i + 1) then 1 else 0) := (show zI 0 = zI (if hd_ l0 (i + 1) then 1 else 0) from zb0 (fun q => by have := (hd_s (by omega)).mp q; first | omega | exact (by assumption : ¬ hd_ l0 i) this.1))
                        exact AW.loc (sS rfl (sS rfl (sZ rfl ef.symm (sS (congrArg (fun z => some (Value.int z)) eh) (sZ rfl (by omega) (sN (sN sE))))))) (ih (i + 1) (by omega) (by omega))
                      · refine A_iconst (q := 126) X dX9_choose_125 rfl ?_
                        refine A_goto (q := 130) X dX9_choose_126 rfl ?_
                        refine A_istore_n (q := 131) X dX9_choose_130 (by decide) (okP_s rfl rfl) rfl ?_
                        refine A_iinc (q := 134) X dX9_choose_131 rfl (by decide) (okP_s rfl rfl) rfl ?_
                        refine A_goto (q := 8) X dX9_choose_134 rfl ?_
                        have ef := chP_f (l := l0) (s := s) (p := i) (fun q => by rcases q.2 with ⟨q1, q2⟩ | ⟨q1, q2, q3⟩ | q1 | ⟨q1, q2, q3⟩ <;> first | omega | exact hb67 (fun j h1 h2 => (inn_iff hgd hb26).mp q3 j (by omega) h2) | exact hb89 q3)
                        have eh : (zI 1) = zI (if hd_ l0 (i + 1) then 1 else 0) := (show zI 1 = zI (if hd_ l0 (i + 1) then 1 else 0) from zb1 ((hd_s (by omega)).mpr ⟨by assumption, by omega⟩))
                        exact AW.loc (sS rfl (sS rfl (sZ rfl ef.symm (sS (congrArg (fun z => some (Value.int z)) eh) (sZ rfl (by omega) (sN (sN sE))))))) (ih (i + 1) (by omega) (by omega))
                  · exact absurd hb101 (by decide)
                · exact absurd hb85 (by decide)
            · refine A_iload (q := 58) X dX9_choose_56 rfl rfl ?_
              refine A_if_eq (q := 61) (t := 74) X dX9_choose_58 (by decide) rfl rfl (fun hb58 => ?_) (fun hb58 => ?_)
              · refine A_iconst (q := 75) X dX9_choose_74 rfl ?_
                refine A_goto (q := 97) X dX9_choose_75 rfl ?_
                refine A_istore (q := 99) X dX9_choose_97 (by decide) (okP_s rfl rfl) rfl ?_
                refine A_iload (q := 101) X dX9_choose_99 rfl rfl ?_
                refine A_if_eq (q := 104) (t := 109) X dX9_choose_101 (by decide) rfl rfl (fun hb101 => ?_) (fun hb101 => ?_)
                · refine A_iload_n (q := 110) X dX9_choose_109 rfl rfl ?_
                  refine A_istore_n (q := 111) X dX9_choose_110 (by decide) (okP_s rfl rfl) rfl ?_
                  refine A_iload_n (q := 112) X dX9_choose_111 rfl rfl ?_
                  refine A_beq (q := 115) (t := 129) X dX9_choose_112 rfl rfl (fun hb112 => ?_) (fun hb112 => ?_)
                  · refine A_iconst (q := 130) X dX9_choose_129 rfl ?_
                    refine A_istore_n (q := 131) X dX9_choose_130 (by decide) (okP_s rfl rfl) rfl ?_
                    refine A_iinc (q := 134) X dX9_choose_131 rfl (by decide) (okP_s rfl rfl) rfl ?_
                    refine A_goto (q := 8) X dX9_choose_134 rfl ?_
                    have ef := chP_f (l := l0) (s := s) (p := i) (fun q => by rcases q.2 with ⟨q1, q2⟩ | ⟨q1, q2, q3⟩ | q1 | ⟨q1, q2, q3⟩ <;> first | omega | exact hb67 (fun j h1 h2 => (inn_iff hgd hb26).mp q3 j (by omega) h2) | exact hb89 q3)
                    have eh : (zI 0) = zI (if hd_ l0 (i + 1) then 1 else 0) := (show zI 0 = zI (if hd_ l0 (i + 1) then 1 else 0) from zb0 (fun q => by have := (hd_s (by omega)).mp q; first | omega | exact (by assumption : ¬ hd_ l0 i) this.1))
                    exact AW.loc (sS rfl (sS rfl (sZ rfl ef.symm (sS (congrArg (fun z => some (Value.int z)) eh) (sZ rfl (by omega) (sN (sN sE))))))) (ih (i + 1) (by omega) (by omega))
                  · refine A_aload_n (q := 116) X dX9_choose_115 rfl rfl ?_
                    refine A_iload (q := 118) X dX9_choose_116 rfl rfl ?_
                    refine A_iald (q := 119) (h := a) (i) X dX9_choose_118 ha0 ha (by omega) (by omega) (by decide) rfl ?_
                    rw [hF i (by omega)]
                    have hgi := hgd.at (i := i) (by omega)
                    refine A_sipush (q := 122) X dX9_choose_119 (by decide) rfl ?_
                    refine A_icmp_ne (q := 125) (t := 129) X dX9_choose_122 (by omega) (by decide) rfl rfl (fun hb122 => ?_) (fun hb122 => ?_)
                    · refine A_iconst (q := 130) X dX9_choose_129 rfl ?_
                      refine A_istore_n (q := 131) X dX9_choose_130 (by decide) (okP_s rfl rfl) rfl ?_
                      refine A_iinc (q := 134) X dX9_choose_131 rfl (by decide) (okP_s rfl rfl) rfl ?_
                      refine A_goto (q := 8) X dX9_choose_134 rfl ?_
                      have ef := chP_f (l := l0) (s := s) (p := i) (fun q => by rcases q.2 with ⟨q1, q2⟩ | ⟨q1, q2, q3⟩ | q1 | ⟨q1, q2, q3⟩ <;> first | omega | exact hb67 (fun j h1 h2 => (inn_iff hgd hb26).mp q3 j (by omega) h2) | exact hb89 q3)
                      have eh : (zI 0) = zI (if hd_ l0 (i + 1) then 1 else 0) := (show zI 0 = zI (if hd_ l0 (i + 1) then 1 else 0) from zb0 (fun q => by have := (hd_s (by omega)).mp q; first | omega | exact (by assumption : ¬ hd_ l0 i) this.1))
                      exact AW.loc (sS rfl (sS rfl (sZ rfl ef.symm (sS (congrArg (fun z => some (Value.int z)) eh) (sZ rfl (by omega) (sN (sN sE))))))) (ih (i + 1) (by omega) (by omega))
                    · refine A_iconst (q := 126) X dX9_choose_125 rfl ?_
                      refine A_goto (q := 130) X dX9_choose_126 rfl ?_
                      refine A_istore_n (q := 131) X dX9_choose_130 (by decide) (okP_s rfl rfl) rfl ?_
                      refine A_iinc (q := 134) X dX9_choose_131 rfl (by decide) (okP_s rfl rfl) rfl ?_
                      refine A_goto (q := 8) X dX9_choose_134 rfl ?_
                      have ef := chP_f (l := l0) (s := s) (p := i) (fun q => by rcases q.2 with ⟨q1, q2⟩ | ⟨q1, q2, q3⟩ | q1 | ⟨q1, q2, q3⟩ <;> first | omega | exact hb67 (fun j h1 h2 => (inn_iff hgd hb26).mp q3 j (by omega) h2) | exact hb89 q3)
                      have eh : (zI 1) = zI (if hd_ l0 (i + 1) then 1 else 0) := (show zI 1 = zI (if hd_ l0 (i + 1) then 1 else 0) from zb1 ((hd_s (by omega)).mpr ⟨by assumption, by omega⟩))
                      exact AW.loc (sS rfl (sS rfl (sZ rfl ef.symm (sS (congrArg (fun z => some (Value.int z)) eh) (sZ rfl (by omega) (sN (sN sE))))))) (ih (i + 1) (by omega) (by omega))
                · exact absurd hb101 (by decide)
              · exact absurd hb58 (by decide)
          · refine A_iload (q := 48) X dX9_choose_46 rfl rfl ?_
            refine A_goto (q := 97) X dX9_choose_48 rfl ?_
            refine A_istore (q := 99) X dX9_choose_97 (by decide) (okP_s rfl rfl) rfl ?_
            refine A_iload (q := 101) X dX9_choose_99 rfl rfl ?_
            refine A_if_eq (q := 104) (t := 109) X dX9_choose_101 (by decide) rfl rfl (fun hb101 => ?_) (fun hb101 => ?_)
            · refine A_iload_n (q := 110) X dX9_choose_109 rfl rfl ?_
              refine A_istore_n (q := 111) X dX9_choose_110 (by decide) (okP_s rfl rfl) rfl ?_
              refine A_iload_n (q := 112) X dX9_choose_111 rfl rfl ?_
              refine A_beq (q := 115) (t := 129) X dX9_choose_112 rfl rfl (fun hb112 => ?_) (fun hb112 => ?_)
              · refine A_iconst (q := 130) X dX9_choose_129 rfl ?_
                refine A_istore_n (q := 131) X dX9_choose_130 (by decide) (okP_s rfl rfl) rfl ?_
                refine A_iinc (q := 134) X dX9_choose_131 rfl (by decide) (okP_s rfl rfl) rfl ?_
                refine A_goto (q := 8) X dX9_choose_134 rfl ?_
                have ef := chP_f (l := l0) (s := s) (p := i) (fun q => by rcases q.2 with ⟨q1, q2⟩ | ⟨q1, q2, q3⟩ | q1 | ⟨q1, q2, q3⟩ <;> first | omega | exact hb67 (fun j h1 h2 => (inn_iff hgd hb26).mp q3 j (by omega) h2) | exact hb89 q3)
                have eh : (zI 0) = zI (if hd_ l0 (i + 1) then 1 else 0) := (show zI 0 = zI (if hd_ l0 (i + 1) then 1 else 0) from zb0 (fun q => by have := (hd_s (by omega)).mp q; first | omega | exact (by assumption : ¬ hd_ l0 i) this.1))
                exact AW.loc (sS rfl (sS rfl (sZ rfl ef.symm (sS (congrArg (fun z => some (Value.int z)) eh) (sZ rfl (by omega) (sN (sN sE))))))) (ih (i + 1) (by omega) (by omega))
              · refine A_aload_n (q := 116) X dX9_choose_115 rfl rfl ?_
                refine A_iload (q := 118) X dX9_choose_116 rfl rfl ?_
                refine A_iald (q := 119) (h := a) (i) X dX9_choose_118 ha0 ha (by omega) (by omega) (by decide) rfl ?_
                rw [hF i (by omega)]
                have hgi := hgd.at (i := i) (by omega)
                refine A_sipush (q := 122) X dX9_choose_119 (by decide) rfl ?_
                refine A_icmp_ne (q := 125) (t := 129) X dX9_choose_122 (by omega) (by decide) rfl rfl (fun hb122 => ?_) (fun hb122 => ?_)
                · refine A_iconst (q := 130) X dX9_choose_129 rfl ?_
                  refine A_istore_n (q := 131) X dX9_choose_130 (by decide) (okP_s rfl rfl) rfl ?_
                  refine A_iinc (q := 134) X dX9_choose_131 rfl (by decide) (okP_s rfl rfl) rfl ?_
                  refine A_goto (q := 8) X dX9_choose_134 rfl ?_
                  have ef := chP_f (l := l0) (s := s) (p := i) (fun q => by rcases q.2 with ⟨q1, q2⟩ | ⟨q1, q2, q3⟩ | q1 | ⟨q1, q2, q3⟩ <;> first | omega | exact hb67 (fun j h1 h2 => (inn_iff hgd hb26).mp q3 j (by omega) h2) | exact hb89 q3)
                  have eh : (zI 0) = zI (if hd_ l0 (i + 1) then 1 else 0) := (show zI 0 = zI (if hd_ l0 (i + 1) then 1 else 0) from zb0 (fun q => by have := (hd_s (by omega)).mp q; first | omega | exact (by assumption : ¬ hd_ l0 i) this.1))
                  exact AW.loc (sS rfl (sS rfl (sZ rfl ef.symm (sS (congrArg (fun z => some (Value.int z)) eh) (sZ rfl (by omega) (sN (sN sE))))))) (ih (i + 1) (by omega) (by omega))
                · refine A_iconst (q := 126) X dX9_choose_125 rfl ?_
                  refine A_goto (q := 130) X dX9_choose_126 rfl ?_
                  refine A_istore_n (q := 131) X dX9_choose_130 (by decide) (okP_s rfl rfl) rfl ?_
                  refine A_iinc (q := 134) X dX9_choose_131 rfl (by decide) (okP_s rfl rfl) rfl ?_
                  refine A_goto (q := 8) X dX9_choose_134 rfl ?_
                  have ef := chP_f (l := l0) (s := s) (p := i) (fun q => by rcases q.2 with ⟨q1, q2⟩ | ⟨q1, q2, q3⟩ | q1 | ⟨q1, q2, q3⟩ <;> first | omega | exact hb67 (fun j h1 h2 => (inn_iff hgd hb26).mp q3 j (by omega) h2) | exact hb89 q3)
                  have eh : (zI 1) = zI (if hd_ l0 (i + 1) then 1 else 0) := (show zI 1 = zI (if hd_ l0 (i + 1) then 1 else 0) from zb1 ((hd_s (by omega)).mpr ⟨by assumption, by omega⟩))
                  exact AW.loc (sS rfl (sS rfl (sZ rfl ef.symm (sS (congrArg (fun z => some (Value.int z)) eh) (sZ rfl (by omega) (sN (sN sE))))))) (ih (i + 1) (by omega) (by omega))
            · exact absurd hb101 (by decide)
        · refine A_iconst (q := 36) X dX9_choose_35 rfl ?_
          refine A_goto (q := 40) X dX9_choose_36 rfl ?_
          refine A_istore (q := 42) X dX9_choose_40 (by decide) (okP_s rfl rfl) rfl ?_
          refine A_iload_n (q := 43) X dX9_choose_42 rfl rfl ?_
          refine A_if_ne (q := 46) (t := 51) X dX9_choose_43 (by omega) rfl rfl (fun hb43 => ?_) (fun hb43 => ?_)
          · refine A_iload_n (q := 52) X dX9_choose_51 rfl rfl ?_
            refine A_iconst (q := 53) X dX9_choose_52 rfl ?_
            refine A_icmp_ne (q := 56) (t := 78) X dX9_choose_53 (by omega) (by decide) rfl rfl (fun hb53 => ?_) (fun hb53 => ?_)
            · refine A_iload_n (q := 79) X dX9_choose_78 rfl rfl ?_
              refine A_iconst (q := 80) X dX9_choose_79 rfl ?_
              refine A_icmp_eq (q := 83) (t := 92) X dX9_choose_80 (by omega) (by decide) rfl rfl (fun hb80 => ?_) (fun hb80 => ?_)
              · refine A_iconst (q := 93) X dX9_choose_92 rfl ?_
                refine A_goto (q := 97) X dX9_choose_93 rfl ?_
                refine A_istore (q := 99) X dX9_choose_97 (by decide) (okP_s rfl rfl) rfl ?_
                refine A_iload (q := 101) X dX9_choose_99 rfl rfl ?_
                refine A_if_eq (q := 104) (t := 109) X dX9_choose_101 (by decide) rfl rfl (fun hb101 => ?_) (fun hb101 => ?_)
                · exact absurd hb101 (by decide)
                · refine A_iload (q := 106) X dX9_choose_104 rfl rfl ?_
                  refine A_goto (q := 110) X dX9_choose_106 rfl ?_
                  refine A_istore_n (q := 111) X dX9_choose_110 (by decide) (okP_s rfl rfl) rfl ?_
                  refine A_iload_n (q := 112) X dX9_choose_111 rfl rfl ?_
                  refine A_beq (q := 115) (t := 129) X dX9_choose_112 rfl rfl (fun hb112 => ?_) (fun hb112 => ?_)
                  · refine A_iconst (q := 130) X dX9_choose_129 rfl ?_
                    refine A_istore_n (q := 131) X dX9_choose_130 (by decide) (okP_s rfl rfl) rfl ?_
                    refine A_iinc (q := 134) X dX9_choose_131 rfl (by decide) (okP_s rfl rfl) rfl ?_
                    refine A_goto (q := 8) X dX9_choose_134 rfl ?_
                    have ef := chP_t (l := l0) (s := s) (p := i) hb26 (by first | exact Or.inl ⟨by omega, by omega⟩ | exact Or.inr (Or.inl ⟨by omega, by omega, (inn_iff hgd hb26).mpr (fun j h1 h2 => hb67 j (by omega) h2)⟩) | exact Or.inr (Or.inr (Or.inl (by omega))) | exact Or.inr (Or.inr (Or.inr ⟨by omega, by omega, hb89⟩)))
                    have eh : (zI 0) = zI (if hd_ l0 (i + 1) then 1 else 0) := (show zI 0 = zI (if hd_ l0 (i + 1) then 1 else 0) from zb0 (fun q => by have := (hd_s (by omega)).mp q; first | omega | exact (by assumption : ¬ hd_ l0 i) this.1))
                    exact AW.loc (sS rfl (sS rfl (sZ rfl ef.symm (sS (congrArg (fun z => some (Value.int z)) eh) (sZ rfl (by omega) (sN (sN sE))))))) (ih (i + 1) (by omega) (by omega))
                  · refine A_aload_n (q := 116) X dX9_choose_115 rfl rfl ?_
                    refine A_iload (q := 118) X dX9_choose_116 rfl rfl ?_
                    refine A_iald (q := 119) (h := a) (i) X dX9_choose_118 ha0 ha (by omega) (by omega) (by decide) rfl ?_
                    rw [hF i (by omega)]
                    have hgi := hgd.at (i := i) (by omega)
                    refine A_sipush (q := 122) X dX9_choose_119 (by decide) rfl ?_
                    refine A_icmp_ne (q := 125) (t := 129) X dX9_choose_122 (by omega) (by decide) rfl rfl (fun hb122 => ?_) (fun hb122 => ?_)
                    · refine A_iconst (q := 130) X dX9_choose_129 rfl ?_
                      refine A_istore_n (q := 131) X dX9_choose_130 (by decide) (okP_s rfl rfl) rfl ?_
                      refine A_iinc (q := 134) X dX9_choose_131 rfl (by decide) (okP_s rfl rfl) rfl ?_
                      refine A_goto (q := 8) X dX9_choose_134 rfl ?_
                      have ef := chP_t (l := l0) (s := s) (p := i) hb26 (by first | exact Or.inl ⟨by omega, by omega⟩ | exact Or.inr (Or.inl ⟨by omega, by omega, (inn_iff hgd hb26).mpr (fun j h1 h2 => hb67 j (by omega) h2)⟩) | exact Or.inr (Or.inr (Or.inl (by omega))) | exact Or.inr (Or.inr (Or.inr ⟨by omega, by omega, hb89⟩)))
                      have eh : (zI 0) = zI (if hd_ l0 (i + 1) then 1 else 0) := (show zI 0 = zI (if hd_ l0 (i + 1) then 1 else 0) from zb0 (fun q => by have := (hd_s (by omega)).mp q; first | omega | exact (by assumption : ¬ hd_ l0 i) this.1))
                      exact AW.loc (sS rfl (sS rfl (sZ rfl ef.symm (sS (congrArg (fun z => some (Value.int z)) eh) (sZ rfl (by omega) (sN (sN sE))))))) (ih (i + 1) (by omega) (by omega))
                    · refine A_iconst (q := 126) X dX9_choose_125 rfl ?_
                      refine A_goto (q := 130) X dX9_choose_126 rfl ?_
                      refine A_istore_n (q := 131) X dX9_choose_130 (by decide) (okP_s rfl rfl) rfl ?_
                      refine A_iinc (q := 134) X dX9_choose_131 rfl (by decide) (okP_s rfl rfl) rfl ?_
                      refine A_goto (q := 8) X dX9_choose_134 rfl ?_
                      have ef := chP_t (l := l0) (s := s) (p := i) hb26 (by first | exact Or.inl ⟨by omega, by omega⟩ | exact Or.inr (Or.inl ⟨by omega, by omega, (inn_iff hgd hb26).mpr (fun j h1 h2 => hb67 j (by omega) h2)⟩) | exact Or.inr (Or.inr (Or.inl (by omega))) | exact Or.inr (Or.inr (Or.inr ⟨by omega, by omega, hb89⟩)))
                      have eh : (zI 1) = zI (if hd_ l0 (i + 1) then 1 else 0) := (show zI 1 = zI (if hd_ l0 (i + 1) then 1 else 0) from zb1 ((hd_s (by omega)).mpr ⟨by assumption, by omega⟩))
                      exact AW.loc (sS rfl (sS rfl (sZ rfl ef.symm (sS (congrArg (fun z => some (Value.int z)) eh) (sZ rfl (by omega) (sN (sN sE))))))) (ih (i + 1) (by omega) (by omega))
              · refine A_iload (q := 85) X dX9_choose_83 rfl rfl ?_
                refine A_if_eq (q := 88) (t := 96) X dX9_choose_85 (by decide) rfl rfl (fun hb85 => ?_) (fun hb85 => ?_)
                · exact absurd hb85 (by decide)
                · refine A_iload_n (q := 89) X dX9_choose_88 rfl rfl ?_
                  refine A_beq (q := 92) (t := 96) X dX9_choose_89 rfl rfl (fun hb89 => ?_) (fun hb89 => ?_)
                  · refine A_iconst (q := 97) X dX9_choose_96 rfl ?_
                    refine A_istore (q := 99) X dX9_choose_97 (by decide) (okP_s rfl rfl) rfl ?_
                    refine A_iload (q := 101) X dX9_choose_99 rfl rfl ?_
                    refine A_if_eq (q := 104) (t := 109) X dX9_choose_101 (by decide) rfl rfl (fun hb101 => ?_) (fun hb101 => ?_)
                    · refine A_iload_n (q := 110) X dX9_choose_109 rfl rfl ?_
                      refine A_istore_n (q := 111) X dX9_choose_110 (by decide) (okP_s rfl rfl) rfl ?_
                      refine A_iload_n (q := 112) X dX9_choose_111 rfl rfl ?_
                      refine A_beq (q := 115) (t := 129) X dX9_choose_112 rfl rfl (fun hb112 => ?_) (fun hb112 => ?_)
                      · refine A_iconst (q := 130) X dX9_choose_129 rfl ?_
                        refine A_istore_n (q := 131) X dX9_choose_130 (by decide) (okP_s rfl rfl) rfl ?_
                        refine A_iinc (q := 134) X dX9_choose_131 rfl (by decide) (okP_s rfl rfl) rfl ?_
                        refine A_goto (q := 8) X dX9_choose_134 rfl ?_
                        have ef := chP_f (l := l0) (s := s) (p := i) (fun q => by rcases q.2 with ⟨q1, q2⟩ | ⟨q1, q2, q3⟩ | q1 | ⟨q1, q2, q3⟩ <;> first | omega | exact hb67 (fun j h1 h2 => (inn_iff hgd hb26).mp q3 j (by omega) h2) | exact hb89 q3)
                        have eh : (zI 0) = zI (if hd_ l0 (i + 1) then 1 else 0) := (show zI 0 = zI (if hd_ l0 (i + 1) then 1 else 0) from zb0 (fun q => by have := (hd_s (by omega)).mp q; first | omega | exact (by assumption : ¬ hd_ l0 i) this.1))
                        exact AW.loc (sS rfl (sS rfl (sZ rfl ef.symm (sS (congrArg (fun z => some (Value.int z)) eh) (sZ rfl (by omega) (sN (sN sE))))))) (ih (i + 1) (by omega) (by omega))
                      · refine A_aload_n (q := 116) X dX9_choose_115 rfl rfl ?_
                        refine A_iload (q := 118) X dX9_choose_116 rfl rfl ?_
                        refine A_iald (q := 119) (h := a) (i) X dX9_choose_118 ha0 ha (by omega) (by omega) (by decide) rfl ?_
                        rw [hF i (by omega)]
                        have hgi := hgd.at (i := i) (by omega)
                        refine A_sipush (q := 122) X dX9_choose_119 (by decide) rfl ?_
                        refine A_icmp_ne (q := 125) (t := 129) X dX9_choose_122 (by omega) (by decide) rfl rfl (fun hb122 => ?_) (fun hb122 => ?_)
                        · refine A_iconst (q := 130) X dX9_choose_129 rfl ?_
                          refine A_istore_n (q := 131) X dX9_choose_130 (by decide) (okP_s rfl rfl) rfl ?_
                          refine A_iinc (q := 134) X dX9_choose_131 rfl (by decide) (okP_s rfl rfl) rfl ?_
                          refine A_goto (q := 8) X dX9_choose_134 rfl ?_
                          have ef := chP_f (l := l0) (s := s) (p := i) (fun q => by rcases q.2 with ⟨q1, q2⟩ | ⟨q1, q2, q3⟩ | q1 | ⟨q1, q2, q3⟩ <;> first | omega | exact hb67 (fun j h1 h2 => (inn_iff hgd hb26).mp q3 j (by omega) h2) | exact hb89 q3)
                          have eh : (zI 0) = zI (if hd_ l0 (i + 1) then 1 else 0) := (show zI 0 = zI (if hd_ l0 (i + 1) then 1 else 0) from zb0 (fun q => by have := (hd_s (by omega)).mp q; first | omega | exact (by assumption : ¬ hd_ l0 i) this.1))
                          exact AW.loc (sS rfl (sS rfl (sZ rfl ef.symm (sS (congrArg (fun z => some (Value.int z)) eh) (sZ rfl (by omega) (sN (sN sE))))))) (ih (i + 1) (by omega) (by omega))
                        · refine A_iconst (q := 126) X dX9_choose_125 rfl ?_
                          refine A_goto (q := 130) X dX9_choose_126 rfl ?_
                          refine A_istore_n (q := 131) X dX9_choose_130 (by decide) (okP_s rfl rfl) rfl ?_
                          refine A_iinc (q := 134) X dX9_choose_131 rfl (by decide) (okP_s rfl rfl) rfl ?_
                          refine A_goto (q := 8) X dX9_choose_134 rfl ?_
                          have ef := chP_f (l := l0) (s := s) (p := i) (fun q => by rcases q.2 with ⟨q1, q2⟩ | ⟨q1, q2, q3⟩ | q1 | ⟨q1, q2, q3⟩ <;> first | omega | exact hb67 (fun j h1 h2 => (inn_iff hgd hb26).mp q3 j (by omega) h2) | exact hb89 q3)
                          have eh : (zI 1) = zI (if hd_ l0 (i + 1) then 1 else 0) := (show zI 1 = zI (if hd_ l0 (i + 1) then 1 else 0) from zb1 ((hd_s (by omega)).mpr ⟨by assumption, by omega⟩))
                          exact AW.loc (sS rfl (sS rfl (sZ rfl ef.symm (sS (congrArg (fun z => some (Value.int z)) eh) (sZ rfl (by omega) (sN (sN sE))))))) (ih (i + 1) (by omega) (by omega))
                    · exact absurd hb101 (by decide)
                  · refine A_iconst (q := 93) X dX9_choose_92 rfl ?_
                    refine A_goto (q := 97) X dX9_choose_93 rfl ?_
                    refine A_istore (q := 99) X dX9_choose_97 (by decide) (okP_s rfl rfl) rfl ?_
                    refine A_iload (q := 101) X dX9_choose_99 rfl rfl ?_
                    refine A_if_eq (q := 104) (t := 109) X dX9_choose_101 (by decide) rfl rfl (fun hb101 => ?_) (fun hb101 => ?_)
                    · exact absurd hb101 (by decide)
                    · refine A_iload (q := 106) X dX9_choose_104 rfl rfl ?_
                      refine A_goto (q := 110) X dX9_choose_106 rfl ?_
                      refine A_istore_n (q := 111) X dX9_choose_110 (by decide) (okP_s rfl rfl) rfl ?_
                      refine A_iload_n (q := 112) X dX9_choose_111 rfl rfl ?_
                      refine A_beq (q := 115) (t := 129) X dX9_choose_112 rfl rfl (fun hb112 => ?_) (fun hb112 => ?_)
                      · refine A_iconst (q := 130) X dX9_choose_129 rfl ?_
                        refine A_istore_n (q := 131) X dX9_choose_130 (by decide) (okP_s rfl rfl) rfl ?_
                        refine A_iinc (q := 134) X dX9_choose_131 rfl (by decide) (okP_s rfl rfl) rfl ?_
                        refine A_goto (q := 8) X dX9_choose_134 rfl ?_
                        have ef := chP_t (l := l0) (s := s) (p := i) hb26 (by first | exact Or.inl ⟨by omega, by omega⟩ | exact Or.inr (Or.inl ⟨by omega, by omega, (inn_iff hgd hb26).mpr (fun j h1 h2 => hb67 j (by omega) h2)⟩) | exact Or.inr (Or.inr (Or.inl (by omega))) | exact Or.inr (Or.inr (Or.inr ⟨by omega, by omega, hb89⟩)))
                        have eh : (zI 0) = zI (if hd_ l0 (i + 1) then 1 else 0) := (show zI 0 = zI (if hd_ l0 (i + 1) then 1 else 0) from zb0 (fun q => by have := (hd_s (by omega)).mp q; first | omega | exact (by assumption : ¬ hd_ l0 i) this.1))
                        exact AW.loc (sS rfl (sS rfl (sZ rfl ef.symm (sS (congrArg (fun z => some (Value.int z)) eh) (sZ rfl (by omega) (sN (sN sE))))))) (ih (i + 1) (by omega) (by omega))
                      · refine A_aload_n (q := 116) X dX9_choose_115 rfl rfl ?_
                        refine A_iload (q := 118) X dX9_choose_116 rfl rfl ?_
                        refine A_iald (q := 119) (h := a) (i) X dX9_choose_118 ha0 ha (by omega) (by omega) (by decide) rfl ?_
                        rw [hF i (by omega)]
                        have hgi := hgd.at (i := i) (by omega)
                        refine A_sipush (q := 122) X dX9_choose_119 (by decide) rfl ?_
                        refine A_icmp_ne (q := 125) (t := 129) X dX9_choose_122 (by omega) (by decide) rfl rfl (fun hb122 => ?_) (fun hb122 => ?_)
                        · refine A_iconst (q := 130) X dX9_choose_129 rfl ?_
                          refine A_istore_n (q := 131) X dX9_choose_130 (by decide) (okP_s rfl rfl) rfl ?_
                          refine A_iinc (q := 134) X dX9_choose_131 rfl (by decide) (okP_s rfl rfl) rfl ?_
                          refine A_goto (q := 8) X dX9_choose_134 rfl ?_
                          have ef := chP_t (l := l0) (s := s) (p := i) hb26 (by first | exact Or.inl ⟨by omega, by omega⟩ | exact Or.inr (Or.inl ⟨by omega, by omega, (inn_iff hgd hb26).mpr (fun j h1 h2 => hb67 j (by omega) h2)⟩) | exact Or.inr (Or.inr (Or.inl (by omega))) | exact Or.inr (Or.inr (Or.inr ⟨by omega, by omega, hb89⟩)))
                          have eh : (zI 0) = zI (if hd_ l0 (i + 1) then 1 else 0) := (show zI 0 = zI (if hd_ l0 (i + 1) then 1 else 0) from zb0 (fun q => by have := (hd_s (by omega)).mp q; first | omega | exact (by assumption : ¬ hd_ l0 i) this.1))
                          exact AW.loc (sS rfl (sS rfl (sZ rfl ef.symm (sS (congrArg (fun z => some (Value.int z)) eh) (sZ rfl (by omega) (sN (sN sE))))))) (ih (i + 1) (by omega) (by omega))
                        · refine A_iconst (q := 126) X dX9_choose_125 rfl ?_
                          refine A_goto (q := 130) X dX9_choose_126 rfl ?_
                          refine A_istore_n (q := 131) X dX9_choose_130 (by decide) (okP_s rfl rfl) rfl ?_
                          refine A_iinc (q := 134) X dX9_choose_131 rfl (by decide) (okP_s rfl rfl) rfl ?_
                          refine A_goto (q := 8) X dX9_choose_134 rfl ?_
                          have ef := chP_t (l := l0) (s := s) (p := i) hb26 (by first | exact Or.inl ⟨by omega, by omega⟩ | exact Or.inr (Or.inl ⟨by omega, by omega, (inn_iff hgd hb26).mpr (fun j h1 h2 => hb67 j (by omega) h2)⟩) | exact Or.inr (Or.inr (Or.inl (by omega))) | exact Or.inr (Or.inr (Or.inr ⟨by omega, by omega, hb89⟩)))
                          have eh : (zI 1) = zI (if hd_ l0 (i + 1) then 1 else 0) := (show zI 1 = zI (if hd_ l0 (i + 1) then 1 else 0) from zb1 ((hd_s (by omega)).mpr ⟨by assumption, by omega⟩))
                          exact AW.loc (sS rfl (sS rfl (sZ rfl ef.symm (sS (congrArg (fun z => some (Value.int z)) eh) (sZ rfl (by omega) (sN (sN sE))))))) (ih (i + 1) (by omega) (by omega))
            · refine A_iload (q := 58) X dX9_choose_56 rfl rfl ?_
              refine A_if_eq (q := 61) (t := 74) X dX9_choose_58 (by decide) rfl rfl (fun hb58 => ?_) (fun hb58 => ?_)
              · exact absurd hb58 (by decide)
              · refine A_aload_n (q := 62) X dX9_choose_61 rfl rfl ?_
                refine A_iload (q := 64) X dX9_choose_62 rfl rfl ?_
                refine A_S2i (q := 67) X (c_X9_isInnermost (p := i) hG ⟨ha0, hl0, F, ha, hS, hF⟩ hgd (by omega)) mX9_isInnermost kX9_80 dX9_choose_64 (by decide) (Nat.le_of_ble_eq_true rfl) rfl (fun vq_6 cq_5 hq_4 => ?_)
                obtain ⟨rfl, hq_4⟩ := hq_4
                obtain rfl := hq_4.symm
                refine A_beq (q := 70) (t := 74) X dX9_choose_67 rfl rfl (fun hb67 => ?_) (fun hb67 => ?_)
                · refine A_iconst (q := 75) X dX9_choose_74 rfl ?_
                  refine A_goto (q := 97) X dX9_choose_75 rfl ?_
                  refine A_istore (q := 99) X dX9_choose_97 (by decide) (okP_s rfl rfl) rfl ?_
                  refine A_iload (q := 101) X dX9_choose_99 rfl rfl ?_
                  refine A_if_eq (q := 104) (t := 109) X dX9_choose_101 (by decide) rfl rfl (fun hb101 => ?_) (fun hb101 => ?_)
                  · refine A_iload_n (q := 110) X dX9_choose_109 rfl rfl ?_
                    refine A_istore_n (q := 111) X dX9_choose_110 (by decide) (okP_s rfl rfl) rfl ?_
                    refine A_iload_n (q := 112) X dX9_choose_111 rfl rfl ?_
                    refine A_beq (q := 115) (t := 129) X dX9_choose_112 rfl rfl (fun hb112 => ?_) (fun hb112 => ?_)
                    · refine A_iconst (q := 130) X dX9_choose_129 rfl ?_
                      refine A_istore_n (q := 131) X dX9_choose_130 (by decide) (okP_s rfl rfl) rfl ?_
                      refine A_iinc (q := 134) X dX9_choose_131 rfl (by decide) (okP_s rfl rfl) rfl ?_
                      refine A_goto (q := 8) X dX9_choose_134 rfl ?_
                      have ef := chP_f (l := l0) (s := s) (p := i) (fun q => by rcases q.2 with ⟨q1, q2⟩ | ⟨q1, q2, q3⟩ | q1 | ⟨q1, q2, q3⟩ <;> first | omega | exact hb67 (fun j h1 h2 => (inn_iff hgd hb26).mp q3 j (by omega) h2) | exact hb89 q3)
                      have eh : (zI 0) = zI (if hd_ l0 (i + 1) then 1 else 0) := (show zI 0 = zI (if hd_ l0 (i + 1) then 1 else 0) from zb0 (fun q => by have := (hd_s (by omega)).mp q; first | omega | exact (by assumption : ¬ hd_ l0 i) this.1))
                      exact AW.loc (sS rfl (sS rfl (sZ rfl ef.symm (sS (congrArg (fun z => some (Value.int z)) eh) (sZ rfl (by omega) (sN (sN sE))))))) (ih (i + 1) (by omega) (by omega))
                    · refine A_aload_n (q := 116) X dX9_choose_115 rfl rfl ?_
                      refine A_iload (q := 118) X dX9_choose_116 rfl rfl ?_
                      refine A_iald (q := 119) (h := a) (i) X dX9_choose_118 ha0 ha (by omega) (by omega) (by decide) rfl ?_
                      rw [hF i (by omega)]
                      have hgi := hgd.at (i := i) (by omega)
                      refine A_sipush (q := 122) X dX9_choose_119 (by decide) rfl ?_
                      refine A_icmp_ne (q := 125) (t := 129) X dX9_choose_122 (by omega) (by decide) rfl rfl (fun hb122 => ?_) (fun hb122 => ?_)
                      · refine A_iconst (q := 130) X dX9_choose_129 rfl ?_
                        refine A_istore_n (q := 131) X dX9_choose_130 (by decide) (okP_s rfl rfl) rfl ?_
                        refine A_iinc (q := 134) X dX9_choose_131 rfl (by decide) (okP_s rfl rfl) rfl ?_
                        refine A_goto (q := 8) X dX9_choose_134 rfl ?_
                        have ef := chP_f (l := l0) (s := s) (p := i) (fun q => by rcases q.2 with ⟨q1, q2⟩ | ⟨q1, q2, q3⟩ | q1 | ⟨q1, q2, q3⟩ <;> first | omega | exact hb67 (fun j h1 h2 => (inn_iff hgd hb26).mp q3 j (by omega) h2) | exact hb89 q3)
                        have eh : (zI 0) = zI (if hd_ l0 (i + 1) then 1 else 0) := (show zI 0 = zI (if hd_ l0 (i + 1) then 1 else 0) from zb0 (fun q => by have := (hd_s (by omega)).mp q; first | omega | exact (by assumption : ¬ hd_ l0 i) this.1))
                        exact AW.loc (sS rfl (sS rfl (sZ rfl ef.symm (sS (congrArg (fun z => some (Value.int z)) eh) (sZ rfl (by omega) (sN (sN sE))))))) (ih (i + 1) (by omega) (by omega))
                      · refine A_iconst (q := 126) X dX9_choose_125 rfl ?_
                        refine A_goto (q := 130) X dX9_choose_126 rfl ?_
                        refine A_istore_n (q := 131) X dX9_choose_130 (by decide) (okP_s rfl rfl) rfl ?_
                        refine A_iinc (q := 134) X dX9_choose_131 rfl (by decide) (okP_s rfl rfl) rfl ?_
                        refine A_goto (q := 8) X dX9_choose_134 rfl ?_
                        have ef := chP_f (l := l0) (s := s) (p := i) (fun q => by rcases q.2 with ⟨q1, q2⟩ | ⟨q1, q2, q3⟩ | q1 | ⟨q1, q2, q3⟩ <;> first | omega | exact hb67 (fun j h1 h2 => (inn_iff hgd hb26).mp q3 j (by omega) h2) | exact hb89 q3)
                        have eh : (zI 1) = zI (if hd_ l0 (i + 1) then 1 else 0) := (show zI 1 = zI (if hd_ l0 (i + 1) then 1 else 0) from zb1 ((hd_s (by omega)).mpr ⟨by assumption, by omega⟩))
                        exact AW.loc (sS rfl (sS rfl (sZ rfl ef.symm (sS (congrArg (fun z => some (Value.int z)) eh) (sZ rfl (by omega) (sN (sN sE))))))) (ih (i + 1) (by omega) (by omega))
                  · exact absurd hb101 (by decide)
                · refine A_iconst (q := 71) X dX9_choose_70 rfl ?_
                  refine A_goto (q := 97) X dX9_choose_71 rfl ?_
                  refine A_istore (q := 99) X dX9_choose_97 (by decide) (okP_s rfl rfl) rfl ?_
                  refine A_iload (q := 101) X dX9_choose_99 rfl rfl ?_
                  refine A_if_eq (q := 104) (t := 109) X dX9_choose_101 (by decide) rfl rfl (fun hb101 => ?_) (fun hb101 => ?_)
                  · exact absurd hb101 (by decide)
                  · refine A_iload (q := 106) X dX9_choose_104 rfl rfl ?_
                    refine A_goto (q := 110) X dX9_choose_106 rfl ?_
                    refine A_istore_n (q := 111) X dX9_choose_110 (by decide) (okP_s rfl rfl) rfl ?_
                    refine A_iload_n (q := 112) X dX9_choose_111 rfl rfl ?_
                    refine A_beq (q := 115) (t := 129) X dX9_choose_112 rfl rfl (fun hb112 => ?_) (fun hb112 => ?_)
                    · refine A_iconst (q := 130) X dX9_choose_129 rfl ?_
                      refine A_istore_n (q := 131) X dX9_choose_130 (by decide) (okP_s rfl rfl) rfl ?_
                      refine A_iinc (q := 134) X dX9_choose_131 rfl (by decide) (okP_s rfl rfl) rfl ?_
                      refine A_goto (q := 8) X dX9_choose_134 rfl ?_
                      have ef := chP_t (l := l0) (s := s) (p := i) hb26 (by first | exact Or.inl ⟨by omega, by omega⟩ | exact Or.inr (Or.inl ⟨by omega, by omega, (inn_iff hgd hb26).mpr (fun j h1 h2 => hb67 j (by omega) h2)⟩) | exact Or.inr (Or.inr (Or.inl (by omega))) | exact Or.inr (Or.inr (Or.inr ⟨by omega, by omega, hb89⟩)))
                      have eh : (zI 0) = zI (if hd_ l0 (i + 1) then 1 else 0) := (show zI 0 = zI (if hd_ l0 (i + 1) then 1 else 0) from zb0 (fun q => by have := (hd_s (by omega)).mp q; first | omega | exact (by assumption : ¬ hd_ l0 i) this.1))
                      exact AW.loc (sS rfl (sS rfl (sZ rfl ef.symm (sS (congrArg (fun z => some (Value.int z)) eh) (sZ rfl (by omega) (sN (sN sE))))))) (ih (i + 1) (by omega) (by omega))
                    · refine A_aload_n (q := 116) X dX9_choose_115 rfl rfl ?_
                      refine A_iload (q := 118) X dX9_choose_116 rfl rfl ?_
                      refine A_iald (q := 119) (h := a) (i) X dX9_choose_118 ha0 ha (by omega) (by omega) (by decide) rfl ?_
                      rw [hF i (by omega)]
                      have hgi := hgd.at (i := i) (by omega)
                      refine A_sipush (q := 122) X dX9_choose_119 (by decide) rfl ?_
                      refine A_icmp_ne (q := 125) (t := 129) X dX9_choose_122 (by omega) (by decide) rfl rfl (fun hb122 => ?_) (fun hb122 => ?_)
                      · refine A_iconst (q := 130) X dX9_choose_129 rfl ?_
                        refine A_istore_n (q := 131) X dX9_choose_130 (by decide) (okP_s rfl rfl) rfl ?_
                        refine A_iinc (q := 134) X dX9_choose_131 rfl (by decide) (okP_s rfl rfl) rfl ?_
                        refine A_goto (q := 8) X dX9_choose_134 rfl ?_
                        have ef := chP_t (l := l0) (s := s) (p := i) hb26 (by first | exact Or.inl ⟨by omega, by omega⟩ | exact Or.inr (Or.inl ⟨by omega, by omega, (inn_iff hgd hb26).mpr (fun j h1 h2 => hb67 j (by omega) h2)⟩) | exact Or.inr (Or.inr (Or.inl (by omega))) | exact Or.inr (Or.inr (Or.inr ⟨by omega, by omega, hb89⟩)))
                        have eh : (zI 0) = zI (if hd_ l0 (i + 1) then 1 else 0) := (show zI 0 = zI (if hd_ l0 (i + 1) then 1 else 0) from zb0 (fun q => by have := (hd_s (by omega)).mp q; first | omega | exact (by assumption : ¬ hd_ l0 i) this.1))
                        exact AW.loc (sS rfl (sS rfl (sZ rfl ef.symm (sS (congrArg (fun z => some (Value.int z)) eh) (sZ rfl (by omega) (sN (sN sE))))))) (ih (i + 1) (by omega) (by omega))
                      · refine A_iconst (q := 126) X dX9_choose_125 rfl ?_
                        refine A_goto (q := 130) X dX9_choose_126 rfl ?_
                        refine A_istore_n (q := 131) X dX9_choose_130 (by decide) (okP_s rfl rfl) rfl ?_
                        refine A_iinc (q := 134) X dX9_choose_131 rfl (by decide) (okP_s rfl rfl) rfl ?_
                        refine A_goto (q := 8) X dX9_choose_134 rfl ?_
                        have ef := chP_t (l := l0) (s := s) (p := i) hb26 (by first | exact Or.inl ⟨by omega, by omega⟩ | exact Or.inr (Or.inl ⟨by omega, by omega, (inn_iff hgd hb26).mpr (fun j h1 h2 => hb67 j (by omega) h2)⟩) | exact Or.inr (Or.inr (Or.inl (by omega))) | exact Or.inr (Or.inr (Or.inr ⟨by omega, by omega, hb89⟩)))
                        have eh : (zI 1) = zI (if hd_ l0 (i + 1) then 1 else 0) := (show zI 1 = zI (if hd_ l0 (i + 1) then 1 else 0) from zb1 ((hd_s (by omega)).mpr ⟨by assumption, by omega⟩))
                        exact AW.loc (sS rfl (sS rfl (sZ rfl ef.symm (sS (congrArg (fun z => some (Value.int z)) eh) (sZ rfl (by omega) (sN (sN sE))))))) (ih (i + 1) (by omega) (by omega))
          · refine A_iload (q := 48) X dX9_choose_46 rfl rfl ?_
            refine A_goto (q := 97) X dX9_choose_48 rfl ?_
            refine A_istore (q := 99) X dX9_choose_97 (by decide) (okP_s rfl rfl) rfl ?_
            refine A_iload (q := 101) X dX9_choose_99 rfl rfl ?_
            refine A_if_eq (q := 104) (t := 109) X dX9_choose_101 (by decide) rfl rfl (fun hb101 => ?_) (fun hb101 => ?_)
            · exact absurd hb101 (by decide)
            · refine A_iload (q := 106) X dX9_choose_104 rfl rfl ?_
              refine A_goto (q := 110) X dX9_choose_106 rfl ?_
              refine A_istore_n (q := 111) X dX9_choose_110 (by decide) (okP_s rfl rfl) rfl ?_
              refine A_iload_n (q := 112) X dX9_choose_111 rfl rfl ?_
              refine A_beq (q := 115) (t := 129) X dX9_choose_112 rfl rfl (fun hb112 => ?_) (fun hb112 => ?_)
              · refine A_iconst (q := 130) X dX9_choose_129 rfl ?_
                refine A_istore_n (q := 131) X dX9_choose_130 (by decide) (okP_s rfl rfl) rfl ?_
                refine A_iinc (q := 134) X dX9_choose_131 rfl (by decide) (okP_s rfl rfl) rfl ?_
                refine A_goto (q := 8) X dX9_choose_134 rfl ?_
                have ef := chP_t (l := l0) (s := s) (p := i) hb26 (by first | exact Or.inl ⟨by omega, by omega⟩ | exact Or.inr (Or.inl ⟨by omega, by omega, (inn_iff hgd hb26).mpr (fun j h1 h2 => hb67 j (by omega) h2)⟩) | exact Or.inr (Or.inr (Or.inl (by omega))) | exact Or.inr (Or.inr (Or.inr ⟨by omega, by omega, hb89⟩)))
                have eh : (zI 0) = zI (if hd_ l0 (i + 1) then 1 else 0) := (show zI 0 = zI (if hd_ l0 (i + 1) then 1 else 0) from zb0 (fun q => by have := (hd_s (by omega)).mp q; first | omega | exact (by assumption : ¬ hd_ l0 i) this.1))
                exact AW.loc (sS rfl (sS rfl (sZ rfl ef.symm (sS (congrArg (fun z => some (Value.int z)) eh) (sZ rfl (by omega) (sN (sN sE))))))) (ih (i + 1) (by omega) (by omega))
              · refine A_aload_n (q := 116) X dX9_choose_115 rfl rfl ?_
                refine A_iload (q := 118) X dX9_choose_116 rfl rfl ?_
                refine A_iald (q := 119) (h := a) (i) X dX9_choose_118 ha0 ha (by omega) (by omega) (by decide) rfl ?_
                rw [hF i (by omega)]
                have hgi := hgd.at (i := i) (by omega)
                refine A_sipush (q := 122) X dX9_choose_119 (by decide) rfl ?_
                refine A_icmp_ne (q := 125) (t := 129) X dX9_choose_122 (by omega) (by decide) rfl rfl (fun hb122 => ?_) (fun hb122 => ?_)
                · refine A_iconst (q := 130) X dX9_choose_129 rfl ?_
                  refine A_istore_n (q := 131) X dX9_choose_130 (by decide) (okP_s rfl rfl) rfl ?_
                  refine A_iinc (q := 134) X dX9_choose_131 rfl (by decide) (okP_s rfl rfl) rfl ?_
                  refine A_goto (q := 8) X dX9_choose_134 rfl ?_
                  have ef := chP_t (l := l0) (s := s) (p := i) hb26 (by first | exact Or.inl ⟨by omega, by omega⟩ | exact Or.inr (Or.inl ⟨by omega, by omega, (inn_iff hgd hb26).mpr (fun j h1 h2 => hb67 j (by omega) h2)⟩) | exact Or.inr (Or.inr (Or.inl (by omega))) | exact Or.inr (Or.inr (Or.inr ⟨by omega, by omega, hb89⟩)))
                  have eh : (zI 0) = zI (if hd_ l0 (i + 1) then 1 else 0) := (show zI 0 = zI (if hd_ l0 (i + 1) then 1 else 0) from zb0 (fun q => by have := (hd_s (by omega)).mp q; first | omega | exact (by assumption : ¬ hd_ l0 i) this.1))
                  exact AW.loc (sS rfl (sS rfl (sZ rfl ef.symm (sS (congrArg (fun z => some (Value.int z)) eh) (sZ rfl (by omega) (sN (sN sE))))))) (ih (i + 1) (by omega) (by omega))
                · refine A_iconst (q := 126) X dX9_choose_125 rfl ?_
                  refine A_goto (q := 130) X dX9_choose_126 rfl ?_
                  refine A_istore_n (q := 131) X dX9_choose_130 (by decide) (okP_s rfl rfl) rfl ?_
                  refine A_iinc (q := 134) X dX9_choose_131 rfl (by decide) (okP_s rfl rfl) rfl ?_
                  refine A_goto (q := 8) X dX9_choose_134 rfl ?_
                  have ef := chP_t (l := l0) (s := s) (p := i) hb26 (by first | exact Or.inl ⟨by omega, by omega⟩ | exact Or.inr (Or.inl ⟨by omega, by omega, (inn_iff hgd hb26).mpr (fun j h1 h2 => hb67 j (by omega) h2)⟩) | exact Or.inr (Or.inr (Or.inl (by omega))) | exact Or.inr (Or.inr (Or.inr ⟨by omega, by omega, hb89⟩)))
                  have eh : (zI 1) = zI (if hd_ l0 (i + 1) then 1 else 0) := (show zI 1 = zI (if hd_ l0 (i + 1) then 1 else 0) from zb1 ((hd_s (by omega)).mpr ⟨by assumption, by omega⟩))
                  exact AW.loc (sS rfl (sS rfl (sZ rfl ef.symm (sS (congrArg (fun z => some (Value.int z)) eh) (sZ rfl (by omega) (sN (sN sE))))))) (ih (i + 1) (by omega) (by omega))
set_option maxRecDepth 100000 in
set_option maxHeartbeats 4000000 in
theorem c_X9_choose {l : Launch} {G : Gm} {c : HP} {a : Nat} {l0 : List Int} {s : Int} (hG : injG G) (hT : Mt G c a l0) (hgd : Gd l0) (hs : 0 ≤ s ∧ s < 4) : AMet l G yX9_choose cX9_choose 7 ((some .int)) (rmR 3 66) [.ref (G.1 a), .int (zI s)] c (Qi (fun v c' => v = zI (chz l0 s) ∧ c' = c)) := by
  refine AMet.of (vl := [some (.ref (G.1 a)), some (.int (zI s))]) (by decide) hG (Nat.le_of_ble_eq_true rfl) rfl ?_
  intro K X
  have X : Fx l G K cX9_choose 7 RX9 ((some .int)) (rmR 3 66) := X
  obtain ⟨ha0, hl0, F, ha, hS, hF⟩ := hT
  have hpos := hgd.pos
  refine A_bipush (q := 2) X dX9_choose_0 (by decide) rfl ?_
  refine A_istore_n (q := 3) X dX9_choose_2 (by decide) (okP_s rfl rfl) rfl ?_
  refine A_iconst (q := 4) X dX9_choose_3 rfl ?_
  refine A_istore_n (q := 5) X dX9_choose_4 (by decide) (okP_s rfl rfl) rfl ?_
  refine A_iconst (q := 6) X dX9_choose_5 rfl ?_
  refine A_istore (q := 8) X dX9_choose_6 (by decide) (okP_s rfl rfl) rfl ?_
  exact AW.loc (sS rfl (sS rfl (sZ rfl (by unfold chP; split; rfl; split; rfl; split; rfl; rfl) (sS (congrArg (fun z => some (Value.int z)) (show zI 1 = zI (if hd_ l0 0 then 1 else 0) from zb1 (fun j hj => absurd hj (Nat.not_lt_zero _)))) (sZ rfl rfl (sN (sN sE))))))) (lp_X9_choose X hG ha0 hl0 ha hS hF hgd hpos hs _ 0 (Nat.lt_succ_self _) (Nat.zero_le _))
