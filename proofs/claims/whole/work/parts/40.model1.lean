/-! THE MODEL, first: tokens, ends, redexes -/
theorem lcZ_gt (x y : Int64) : 0 < lcZ x y ↔ y < x := by
  rw [← lg_cmp_gt, lg_zI, zI_0, zI_lt (by decide) (by have := lcZ_rg x y; unfold rg; omega)]
theorem i64_le {a b : Int} (ha : rg a) (hb : rg b) : (zI a).toInt64 ≤ (zI b).toInt64 ↔ a ≤ b := by
  rw [Int64.le_iff_toInt_le, Int32.toInt_toInt64, Int32.toInt_toInt64, zI_toInt ha, zI_toInt hb]
def Mt (G : Gm) (c : HP) (a : Nat) (l : List Int) : Prop := a < G.2.1 ∧ l.length ≤ 200 ∧ ∃ F : Nat → Int, c a = aI G 201 F ∧ F 200 = ((l.length : Nat) : Int) ∧ ∀ k, k < l.length → F k = l.getD k 0
theorem Mt.keep {G : Gm} {c c' : HP} {a : Nat} {l : List Int} (q : Mt G c a l) (e : c' a = c a) : Mt G c' a l := by
  obtain ⟨h1, h2, F, h3, h4⟩ := q
  exact ⟨h1, h2, F, e.trans h3, h4⟩
theorem Mt.len {G : Gm} {c : HP} {a : Nat} {l : List Int} (q : Mt G c a l) : l.length ≤ 200 := q.2.1
theorem Mt.lt {G : Gm} {c : HP} {a : Nat} {l : List Int} (q : Mt G c a l) : a < G.2.1 := q.1
def Mr (G : Gm) (c : HP) (a : Nat) : Prop := a < G.2.1 ∧ ∃ F : Nat → Int, c a = aI G 201 F
theorem Mr.keep {G : Gm} {c c' : HP} {a : Nat} (q : Mr G c a) (e : c' a = c a) : Mr G c' a := ⟨q.1, q.2.choose, e.trans q.2.choose_spec⟩
theorem Mt.mr {G : Gm} {c : HP} {a : Nat} {l : List Int} (q : Mt G c a l) : Mr G c a := ⟨q.1, q.2.2.choose, q.2.2.choose_spec.1⟩
theorem rx_iff {l : List Int} {k : Nat} (h : k + 1 < l.length) : rx l k ↔ l.getD k 0 = 1000 ∧ l.getD (k + 1) 0 = 1001 := ⟨fun q => (rx_lt q).2, fun q => rx_of h q.1 q.2⟩
theorem prt_b {t : Int} (h : t < 1000000) : prt t ≤ 2 := by
  unfold prt
  rw [if_neg (by omega)]
  split
  · omega
  · split <;> omega
theorem drop_hd {l : List Int} {p : Nat} {t : Int} {r : List Int} (h : l.drop p = t :: r) : p < l.length ∧ l.getD p 0 = t ∧ l.drop (p + 1) = r := by
  have h1 : p < l.length := by
    rcases Nat.lt_or_ge p l.length with q | q
    · exact q
    · rw [List.drop_eq_nil_of_le q] at h; cases h
  rw [List.drop_eq_getElem_cons h1] at h
  injection h with e1 e2
  exact ⟨h1, by rw [List.getD_eq_getElem?_getD, List.getElem?_eq_getElem h1]; exact e1, e2⟩
set_option maxRecDepth 100000 in
set_option maxHeartbeats 4000000 in
theorem c_X9_in {l : Launch} {G : Gm} {c : HP} {x y z : Int64} (hG : injG G)  : AMet l G yX9_in cX9_in 6 ((some .boolean)) (rmR 0 0) [.long (x), .long (y), .long (z)] c (Qi (fun v c' => v = zI (if y ≤ x ∧ x ≤ z then 1 else 0) ∧ c' = c)) := by
  refine AMet.of (vl := [some (.long (x)), none, some (.long (y)), none, some (.long (z)), none]) (by decide) hG (Nat.le_of_ble_eq_true rfl) rfl ?_
  intro K X
  have X : Fx l G K cX9_in 6 RX9 ((some .boolean)) (rmR 0 0) := X
  refine A_lload_n (q := 1) X dX9_in_0 rfl rfl ?_
  refine A_lload_n (q := 2) X dX9_in_1 rfl rfl ?_
  refine A_lcmp (q := 3) X dX9_in_2 rfl ?_
  rw [lg_zI]
  have hc3 := lcZ_rg x y
  refine A_if_lt (q := 6) (t := 17) X dX9_in_3 (by omega) rfl rfl (fun hb3 => ?_) (fun hb3 => ?_)
  · refine A_iconst (q := 18) X dX9_in_17 rfl ?_
    exact A_zreturn X dX9_in_18 (by decide) ⟨zb0 (fun h => Int64.not_lt.mpr h.1 ((lcZ_lt x y).mp hb3)), rfl⟩
  · refine A_lload_n (q := 7) X dX9_in_6 rfl rfl ?_
    refine A_lload (q := 9) X dX9_in_7 rfl rfl ?_
    refine A_lcmp (q := 10) X dX9_in_9 rfl ?_
    rw [lg_zI]
    have hc10 := lcZ_rg x z
    refine A_if_gt (q := 13) (t := 17) X dX9_in_10 (by omega) rfl rfl (fun hb10 => ?_) (fun hb10 => ?_)
    · refine A_iconst (q := 18) X dX9_in_17 rfl ?_
      exact A_zreturn X dX9_in_18 (by decide) ⟨zb0 (fun h => Int64.not_lt.mpr h.2 ((lcZ_gt x z).mp hb10)), rfl⟩
    · refine A_iconst (q := 14) X dX9_in_13 rfl ?_
      refine A_goto (q := 18) X dX9_in_14 rfl ?_
      exact A_zreturn X dX9_in_18 (by decide) ⟨zb1 ⟨by have := mt (lcZ_lt x y).mpr hb3; exact Int64.not_lt.mp this, by have := mt (lcZ_gt x z).mpr hb10; exact Int64.not_lt.mp this⟩, rfl⟩
theorem c_in {l : Launch} {G : Gm} {c : HP} {a b d : Int} (hG : injG G) (ha : rg a) (hb : rg b) (hd : rg d) : AMet l G yX9_in cX9_in 6 ((some .boolean)) (rmR 0 0) [.long (zI a).toInt64, .long (zI b).toInt64, .long (zI d).toInt64] c (Qi (fun v c' => v = zI (if b ≤ a ∧ a ≤ d then 1 else 0) ∧ c' = c)) := by
  have h := c_X9_in (l := l) (c := c) (x := (zI a).toInt64) (y := (zI b).toInt64) (z := (zI d).toInt64) hG
  have e : ((zI b).toInt64 ≤ (zI a).toInt64 ∧ (zI a).toInt64 ≤ (zI d).toInt64) = (b ≤ a ∧ a ≤ d) := by rw [i64_le hb ha, i64_le ha hd]
  simp only [e] at h
  exact h
set_option maxRecDepth 100000 in
set_option maxHeartbeats 4000000 in
theorem c_X9_isVariable {l : Launch} {G : Gm} {c : HP} {t : Int} (hG : injG G) (ht : rg t) : AMet l G yX9_isVariable cX9_isVariable 1 ((some .boolean)) (rmR 0 0) [.int (zI t)] c (Qi (fun v c' => v = zI (if t < 1000 then 1 else 0) ∧ c' = c)) := by
  refine AMet.of (vl := [some (.int (zI t))]) (by decide) hG (Nat.le_of_ble_eq_true rfl) rfl ?_
  intro K X
  have X : Fx l G K cX9_isVariable 1 RX9 ((some .boolean)) (rmR 0 0) := X
  refine A_iload_n (q := 1) X dX9_isVariable_0 rfl rfl ?_
  refine A_sipush (q := 4) X dX9_isVariable_1 (by decide) rfl ?_
  refine A_icmp_ge (q := 7) (t := 11) X dX9_isVariable_4 (by omega) (by decide) rfl rfl (fun hb4 => ?_) (fun hb4 => ?_)
  · refine A_iconst (q := 12) X dX9_isVariable_11 rfl ?_
    exact A_zreturn X dX9_isVariable_12 (by decide) ⟨zb0 (by omega), rfl⟩
  · refine A_iconst (q := 8) X dX9_isVariable_7 rfl ?_
    refine A_goto (q := 12) X dX9_isVariable_8 rfl ?_
    exact A_zreturn X dX9_isVariable_12 (by decide) ⟨zb1 (by omega), rfl⟩
set_option maxRecDepth 100000 in
set_option maxHeartbeats 4000000 in
theorem c_X9_parts {l : Launch} {G : Gm} {c : HP} {t : Int} (hG : injG G) (h0 : 0 ≤ t) (ht : rg t) : AMet l G yX9_parts cX9_parts 1 ((some .int)) (rmR 0 0) [.int (zI t)] c (Qi (fun v c' => v = zI ((prt t : Nat) : Int) ∧ c' = c)) := by
  refine AMet.of (vl := [some (.int (zI t))]) (by decide) hG (Nat.le_of_ble_eq_true rfl) rfl ?_
  intro K X
  have X : Fx l G K cX9_parts 1 RX9 ((some .int)) (rmR 0 0) := X
  refine A_iload_n (q := 1) X dX9_parts_0 rfl rfl ?_
  refine A_ldc (q := 3) (n := 1000000) X dX9_parts_1 nX9_63 (by decide) rfl ?_
  refine A_icmp_lt (q := 6) (t := 17) X dX9_parts_3 (by omega) (by decide) rfl rfl (fun hb3 => ?_) (fun hb3 => ?_)
  · refine A_iload_n (q := 18) X dX9_parts_17 rfl rfl ?_
    refine A_sipush (q := 21) X dX9_parts_18 (by decide) rfl ?_
    refine A_icmp_ne (q := 24) (t := 28) X dX9_parts_21 (by omega) (by decide) rfl rfl (fun hb21 => ?_) (fun hb21 => ?_)
    · refine A_iload_n (q := 29) X dX9_parts_28 rfl rfl ?_
      refine A_sipush (q := 32) X dX9_parts_29 (by decide) rfl ?_
      refine A_icmp_ne (q := 35) (t := 39) X dX9_parts_32 (by omega) (by decide) rfl rfl (fun hb32 => ?_) (fun hb32 => ?_)
      · refine A_iconst (q := 40) X dX9_parts_39 rfl ?_
        exact A_ireturn X dX9_parts_40 ⟨congrArg zI (by unfold prt kn; split <;> (try split) <;> (try split) <;> omega), rfl⟩
      · refine A_iconst (q := 36) X dX9_parts_35 rfl ?_
        refine A_goto (q := 40) X dX9_parts_36 rfl ?_
        exact A_ireturn X dX9_parts_40 ⟨congrArg zI (by unfold prt kn; split <;> (try split) <;> (try split) <;> omega), rfl⟩
    · refine A_iconst (q := 25) X dX9_parts_24 rfl ?_
      refine A_goto (q := 40) X dX9_parts_25 rfl ?_
      exact A_ireturn X dX9_parts_40 ⟨congrArg zI (by unfold prt kn; split <;> (try split) <;> (try split) <;> omega), rfl⟩
  · refine A_iconst (q := 7) X dX9_parts_6 rfl ?_
    refine A_iload_n (q := 8) X dX9_parts_7 rfl rfl ?_
    refine A_ldc (q := 10) (n := 1000000) X dX9_parts_8 nX9_63 (by decide) rfl ?_
    refine A_isub (q := 11) X dX9_parts_10 rfl ?_
    refine A_sipush (q := 14) X dX9_parts_11 (by decide) rfl ?_
    refine A_idiv (q := 15) X dX9_parts_14 (by omega) (by omega) (by decide) (by decide) rfl ?_
    refine A_iadd (q := 16) X dX9_parts_15 rfl ?_
    exact A_ireturn X dX9_parts_16 ⟨congrArg zI (by unfold prt kn; split <;> (try split) <;> (try split) <;> omega), rfl⟩
set_option maxRecDepth 100000 in
set_option maxHeartbeats 4000000 in
theorem lp_X9_assign {l : Launch} {G : Gm} {K : Cx} {c0 : HP} {a b : Nat} {F : Nat → Int} (X : Fx l G K cX9_assign 3 RX9 (none) (rmR 0 0)) (hG : injG G) (ha0 : a < G.2.1) (hb0 : b < G.2.1) (hab : a ≠ b) (haF : c0 a = aI G 201 F) : ∀ (n : Nat) (i : Nat) (H : Nat → Int) (c : HP), 201 - i < n → i ≤ 201 → c b = aI G 201 H → (∀ k, k < i → H k = F k) → (∀ k, k ≠ b → c k = c0 k) → AW G K (Qv (fun c' => (∃ F', c' b = aI G 201 F' ∧ ∀ k, k < 201 → F' k = F k) ∧ (∀ k, k ≠ b → c' k = c0 k))) 2 (mkL [some (.ref (G.1 a)), some (.ref (G.1 b)), some (.int (zI ((i : Nat) : Int)))]) [] c := by
  intro n
  induction n with
  | zero => intro i H c hmz; exact absurd hmz (Nat.not_lt_zero _)
  | succ n ih =>
    intro i H c hmz hi hb hH hf0
    have ha := (hf0 a hab).trans haF
    refine A_iload_n (q := 3) X dX9_assign_2 rfl rfl ?_
    refine A_sipush (q := 6) X dX9_assign_3 (by decide) rfl ?_
    refine A_icmp_ge (q := 9) (t := 21) X dX9_assign_6 (by omega) (by decide) rfl rfl (fun hb6 => ?_) (fun hb6 => ?_)
    · exact A_return X dX9_assign_21 ⟨⟨H, hb, fun k hk => hH k (by omega)⟩, hf0⟩
    · refine A_aload_n (q := 10) X dX9_assign_9 rfl rfl ?_
      refine A_iload_n (q := 11) X dX9_assign_10 rfl rfl ?_
      refine A_aload_n (q := 12) X dX9_assign_11 rfl rfl ?_
      refine A_iload_n (q := 13) X dX9_assign_12 rfl rfl ?_
      refine A_iald (q := 14) (h := a) (i) X dX9_assign_13 ha0 ha (by omega) (by omega) (by decide) rfl ?_
      refine A_iast (q := 15) (h := b) (i) X dX9_assign_14 hb0 hb (by omega) (by omega) (by decide) rfl ?_
      refine A_iinc (q := 18) X dX9_assign_15 rfl (by decide) (okP_s rfl rfl) rfl ?_
      refine A_goto (q := 2) X dX9_assign_18 rfl ?_
      exact AW.loc (sS rfl (sS rfl (sZ rfl (by omega) sE))) (ih (i + 1) (va_up H i (F i)) _ (by omega) (by omega) lk_eq (fun k hk => by by_cases e : k = i; (subst e; exact lk_eq); exact lk_ne e (hH k (by omega))) (fun k n0 => lk_ne n0 (hf0 k n0)))
set_option maxRecDepth 100000 in
set_option maxHeartbeats 4000000 in
theorem c_X9_assign {l : Launch} {G : Gm} {c : HP} {a b : Nat} {F H : Nat → Int} (hG : injG G) (ha0 : a < G.2.1) (hb0 : b < G.2.1) (hab : a ≠ b) (ha : c a = aI G 201 F) (hb : c b = aI G 201 H) : AMet l G yX9_assign cX9_assign 3 (none) (rmR 0 0) [.ref (G.1 a), .ref (G.1 b)] c (Qv (fun c' => (∃ F', c' b = aI G 201 F' ∧ ∀ k, k < 201 → F' k = F k) ∧ (∀ k, k ≠ b → c' k = c k))) := by
  refine AMet.of (vl := [some (.ref (G.1 a)), some (.ref (G.1 b))]) (by decide) hG (Nat.le_of_ble_eq_true rfl) rfl ?_
  intro K X
  have X : Fx l G K cX9_assign 3 RX9 (none) (rmR 0 0) := X
  refine A_iconst (q := 1) X dX9_assign_0 rfl ?_
  refine A_istore_n (q := 2) X dX9_assign_1 (by decide) (okP_s rfl rfl) rfl ?_
  exact AW.loc (sS rfl (sS rfl (sZ rfl rfl sE))) (lp_X9_assign X hG ha0 hb0 hab ha _ 0 H c (Nat.lt_succ_self _) (Nat.zero_le _) hb (fun k hk => absurd hk (Nat.not_lt_zero _)) (fun _ _ => rfl))
set_option maxRecDepth 100000 in
set_option maxHeartbeats 4000000 in
theorem c_assign {l : Launch} {G : Gm} {c : HP} {a b : Nat} {t : List Int} (hG : injG G) (ha : Mt G c a t) (hb : Mr G c b) (hab : a ≠ b) : AMet l G yX9_assign cX9_assign 3 (none) (rmR 0 0) [.ref (G.1 a), .ref (G.1 b)] c (Qv (fun c' => Mt G c' b t ∧ (∀ k, k ≠ b → c' k = c k))) := by
  refine AMet.of (vl := [some (.ref (G.1 a)), some (.ref (G.1 b))]) (by decide) hG (Nat.le_of_ble_eq_true rfl) rfl ?_
  intro K X
  have X : Fx l G K cX9_assign 3 RX9 (none) (rmR 0 0) := X
  obtain ⟨a1, a2, F, a3, a4, a5⟩ := ha
  obtain ⟨b1, H, b2⟩ := hb
  refine A_iconst (q := 1) X dX9_assign_0 rfl ?_
  refine A_istore_n (q := 2) X dX9_assign_1 (by decide) (okP_s rfl rfl) rfl ?_
  refine AW.loc (sS rfl (sS rfl (sZ rfl rfl sE))) (AW.mono (lp_X9_assign X hG a1 b1 hab a3 _ 0 H c (Nat.lt_succ_self _) (Nat.zero_le _) b2 (fun k hk => absurd hk (Nat.not_lt_zero _)) (fun _ _ => rfl)) ?_)
  rintro r c' ⟨hr, ⟨F', f1, f2⟩, hf⟩
  exact ⟨hr, ⟨b1, a2, F', f1, by rw [f2 200 (by decide), a4], fun k hk => by rw [f2 k (by omega), a5 k hk]⟩, hf⟩
set_option maxRecDepth 100000 in
set_option maxHeartbeats 4000000 in
theorem lp_X9_end {l : Launch} {G : Gm} {K : Cx} {c : HP} {a M s0 E : Nat} {F : Nat → Int} {l0 post : List Int} (X : Fx l G K cX9_end 4 RX9 ((some .int)) (rmR 1 20)) (hG : injG G) (ha0 : a < G.2.1) (ha : c a = aI G M F) (hM : M ≤ 1000) (hlM : l0.length ≤ M) (hF : ∀ k, k < l0.length → F k = l0.getD k 0) : ∀ (n : Nat) (p : Nat) (cs : List Nat) (x : List Int), x.length < n → l0.drop p = x ++ post → wfr x cs = some [] → (∀ t ∈ x, 0 ≤ t ∧ t ≤ 2000000) → p + x.length = E → AW G K (Qi (fun v c' => v = zI ((E : Nat) : Int) ∧ c' = c)) 4 (mkL [some (.ref (G.1 a)), some (.int (zI ((s0 : Nat) : Int))), some (.int (zI ((cs.length : Nat) : Int))), some (.int (zI ((p : Nat) : Int)))]) [] c := by
  intro n
  induction n with
  | zero => intro p cs x hmz; exact absurd hmz (Nat.not_lt_zero _)
  | succ n ih =>
    intro p cs x hmz hd hw hB hE
    have hwl0 := wfr_le _ _ hw
    have hxl0 := congrArg List.length hd
    rw [List.length_drop, List.length_append] at hxl0
    refine A_iload_n (q := 5) X dX9_end_4 rfl rfl ?_
    refine A_if_le (q := 8) (t := 25) X dX9_end_5 (by omega) rfl rfl (fun hb5 => ?_) (fun hb5 => ?_)
    · refine A_iload_n (q := 26) X dX9_end_25 rfl rfl ?_
      have e0 : cs = [] := List.length_eq_zero_iff.mp (by omega)
      subst e0
      have ex : x = [] := by cases x with | nil => rfl | cons t x => cases hw
      subst ex
      exact A_ireturn X dX9_end_26 ⟨by rw [← hE]; rfl, rfl⟩
    · obtain ⟨t, x2, rfl⟩ : ∃ t x2, x = t :: x2 := by cases x with | nil => (rw [wfr_nil] at hw; cases hw; exact absurd (by decide) hb5) | cons t x2 => exact ⟨t, x2, rfl⟩
      obtain ⟨c1, cs2, nn, rfl, hn, hw2⟩ := wfr_cons hw
      obtain ⟨hp1, hp2, hp3⟩ := drop_hd hd
      have hFp := (hF p hp1).trans hp2
      have htb := hB t List.mem_cons_self
      have hwl := wfr_le _ _ hw2
      have hnl := nxt_len hn
      rw [List.length_append, hnl] at hwl
      have hxl := congrArg List.length hd
      rw [List.length_drop, List.length_append, List.length_cons] at hxl
      have hcl : (c1 :: cs2).length = cs2.length + 1 := rfl
      refine A_iload_n (q := 9) X dX9_end_8 rfl rfl ?_
      refine A_aload_n (q := 10) X dX9_end_9 rfl rfl ?_
      refine A_iload_n (q := 11) X dX9_end_10 rfl rfl ?_
      refine A_iald (q := 12) (h := a) (p) X dX9_end_11 ha0 ha (by omega) (by omega) (by omega) rfl ?_
      rw [hFp]
      refine A_S1i (q := 15) X (c_X9_parts hG (by omega) (by omega)) mX9_parts kX9_64 dX9_end_12 (by decide) (Nat.le_of_ble_eq_true rfl) rfl (fun vq_3 cq_2 hq_1 => ?_)
      obtain ⟨rfl, hq_1⟩ := hq_1
      obtain rfl := hq_1.symm
      refine A_iconst (q := 16) X dX9_end_15 rfl ?_
      refine A_isub (q := 17) X dX9_end_16 rfl ?_
      refine A_iadd (q := 18) X dX9_end_17 rfl ?_
      refine A_istore_n (q := 19) X dX9_end_18 (by decide) (okP_s rfl rfl) rfl ?_
      refine A_iinc (q := 22) X dX9_end_19 rfl (by decide) (okP_s rfl rfl) rfl ?_
      refine A_goto (q := 4) X dX9_end_22 rfl ?_
      exact AW.loc (sS rfl (sS rfl (sZ rfl (by rw [List.length_append, hnl]; omega) (sZ rfl (by omega) sE)))) (ih (p + 1) (nn ++ cs2) x2 (by simp only [List.length_cons] at hmz; omega) hp3 hw2 (fun y hy => hB y (List.mem_cons_of_mem _ hy)) (by rw [← hE, List.length_cons]; omega))
set_option maxRecDepth 100000 in
set_option maxHeartbeats 4000000 in
theorem c_X9_end {l : Launch} {G : Gm} {c : HP} {a M p c1 : Nat} {F : Nat → Int} {l0 x post : List Int} (hG : injG G) (ha0 : a < G.2.1) (ha : c a = aI G M F) (hM : M ≤ 1000) (hlM : l0.length ≤ M) (hF : ∀ k, k < l0.length → F k = l0.getD k 0) (hd : l0.drop p = x ++ post) (hw : wfr x [c1] = some []) (hB : ∀ t ∈ x, 0 ≤ t ∧ t ≤ 2000000) : AMet l G yX9_end cX9_end 4 ((some .int)) (rmR 1 20) [.ref (G.1 a), .int (zI ((p : Nat) : Int))] c (Qi (fun v c' => v = zI ((p + x.length : Nat) : Int) ∧ c' = c)) := by
  refine AMet.of (vl := [some (.ref (G.1 a)), some (.int (zI ((p : Nat) : Int)))]) (by decide) hG (Nat.le_of_ble_eq_true rfl) rfl ?_
  intro K X
  have X : Fx l G K cX9_end 4 RX9 ((some .int)) (rmR 1 20) := X
  refine A_iconst (q := 1) X dX9_end_0 rfl ?_
  refine A_istore_n (q := 2) X dX9_end_1 (by decide) (okP_s rfl rfl) rfl ?_
  refine A_iload_n (q := 3) X dX9_end_2 rfl rfl ?_
  refine A_istore_n (q := 4) X dX9_end_3 (by decide) (okP_s rfl rfl) rfl ?_
  exact AW.loc (sS rfl (sS rfl (sZ rfl rfl (sZ rfl rfl sE)))) (lp_X9_end X hG ha0 ha hM hlM hF _ p [c1] x (Nat.lt_succ_self _) hd hw hB rfl)
