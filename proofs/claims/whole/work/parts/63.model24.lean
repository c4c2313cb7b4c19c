/-! THE MODEL's machine: rows, single writes, the rule at a place -/
theorem bh_s {l : List Int} {s : Nat} (h : s < l.length) (n : Nat) : bh l s (n + 1) = bh l (s + 1) (n + prt (l.getD s 0)) := by
  unfold bh
  rw [drop_cons h]
  show s + (1 + sk (l.drop (s + 1)) (n + prt (l.getD s 0))) = _
  omega
theorem sl_join {l : List Int} {i j k : Nat} (h1 : i ≤ j) (h2 : j ≤ k) : sl l i j ++ sl l j k = sl l i k := by
  unfold sl
  rw [show k - i = (j - i) + (k - j) by omega, List.take_add, List.drop_drop, show i + (j - i) = j by omega]
theorem sl_one {l : List Int} {k : Nat} (h : k < l.length) : sl l k (k + 1) = [l.getD k 0] := by
  unfold sl
  rw [drop_cons h, Nat.add_sub_cancel_left]
  rfl
theorem sl_nil (l : List Int) (i : Nat) : sl l i i = [] := by
  unfold sl
  rw [Nat.sub_self, List.take_zero]
theorem sl_0 (l : List Int) (p : Nat) : sl l 0 p = l.take p := by
  unfold sl
  rw [List.drop_zero, Nat.sub_zero]
theorem sl_end (l : List Int) (i : Nat) : sl l i l.length = l.drop i := by
  unfold sl
  exact List.take_of_length_le (by rw [List.length_drop]; omega)
theorem XG.tk {l : List Int} (h : XG l) : ∀ t ∈ l, 0 ≤ t ∧ t ≤ 2000000 := fun t ht => by
  rcases h.xb t ht with e | e | ⟨e1, e2, e3⟩ | ⟨e1, e2⟩
  · omega
  · omega
  · have := clo_of e1
    unfold clo at this
    omega
  · omega
theorem XG.ta {l : List Int} (h : XG l) {k : Nat} (hk : k < l.length) : (0 ≤ l.getD k 0 ∧ l.getD k 0 ≤ 2000000) ∧ (l.getD k 0 = 1000 ∨ l.getD k 0 = 1001 ∨ 1000000 ≤ l.getD k 0 ∨ l.getD k 0 < 310) := by
  refine ⟨h.tk _ (mem_getD hk), ?_⟩
  rcases h.xb _ (mem_getD hk) with e | e | ⟨e1, e2, e3⟩ | ⟨e1, e2⟩ <;> omega
/-- the entries of a closure at a place: they stand one behind another, none is empty -/
theorem ent_str {l : List Int} {p : Nat} (h : XG l) (hp : p + 1 < l.length) (h0 : 1000000 ≤ l.getD p 0) : (∀ i, i ≤ kn (l.getD p 0) → bh l (bh l (p + 1) 1) i + (kn (l.getD p 0) - i) ≤ bh l (bh l (p + 1) 1) (kn (l.getD p 0))) ∧ bh l p 1 = bh l (bh l (p + 1) 1) (kn (l.getD p 0)) ∧ bh l p 1 ≤ l.length ∧ p + 2 ≤ bh l (p + 1) 1 := by
  obtain ⟨c, cs, body, es, post, w1, hk, hc, hd, wb, we, wp, hn⟩ := clo_split h hp h0
  have e1 : bh l (p + 1) 1 = p + 1 + body.length := bh_app (cs := [_]) hd wb
  have d1 : l.drop (bh l (p + 1) 1) = es ++ post := by rw [e1]; exact drop_app hd
  have w : wfr (l.drop (bh l (p + 1) 1)) (List.replicate (kn (l.getD p 0)) c ++ cs) = some [] := by
    have t : wfr es (List.replicate (kn (l.getD p 0)) c ++ cs) = some cs := wfr_tl es _ [] cs we
    rw [d1, wfr_app, t]
    exact wp
  have eb : bh l p 1 = bh l (bh l (p + 1) 1) (kn (l.getD p 0)) := by
    have q := bh_s (l := l) (s := p) (by omega) 0
    have q2 : prt (l.getD p 0) = 1 + kn (l.getD p 0) := by unfold prt; rw [if_pos h0]
    rw [q2, Nat.zero_add, Nat.zero_add, bh_add l (p + 1) 1 (kn (l.getD p 0))] at q
    exact q
  have bl : 1 ≤ body.length := wfr_le _ _ wb
  refine ⟨fun i hi => ?_, eb, bh_le 1 (by omega), by omega⟩
  generalize bh l (p + 1) 1 = E at w
  have q := sk_mono w (kn (l.getD p 0) - i) i (by rw [List.length_append, List.length_replicate]; omega)
  rw [show i + (kn (l.getD p 0) - i) = kn (l.getD p 0) by omega] at q
  unfold bh
  omega
def Nw (G : Gm) (c : HP) (tw : Int) (x : List Int) : Prop := (∃ F : Nat → Int, c 70 = aI G 321 F ∧ (tw = 0 → x.length ≤ 300 ∧ F 320 = ((x.length : Nat) : Int) ∧ ∀ k, k < x.length → F k = x.getD k 0)) ∧ (tw = 0 ∨ (tw = 1 ∧ 300 < x.length))
def AX (G : Gm) (c : HP) (th ts rmb obn : Int) (sd : Int64) (pk : Int) (x : List Int) : Prop := ∃ tw, c 55 = ob9 G th ts rmb obn sd tw pk ∧ Nw G c tw x
theorem AX_eq {G : Gm} {c : HP} {th ts rmb obn : Int} {sd : Int64} {pk : Int} {x y : List Int} (h : AX G c th ts rmb obn sd pk x) (e : x = y) : AX G c th ts rmb obn sd pk y := e ▸ h
def Ww (G : Gm) (c : HP) (l : List Int) : Prop := l.length ≤ 300 ∧ ∃ F : Nat → Int, c 69 = aI G 321 F ∧ F 320 = ((l.length : Nat) : Int) ∧ ∀ k, k < l.length → F k = l.getD k 0
theorem Ww.keep {G : Gm} {c c' : HP} {l : List Int} (h : Ww G c l) (e : c' 69 = c 69) : Ww G c' l := ⟨h.1, _, e.trans h.2.choose_spec.1, h.2.choose_spec.2⟩
theorem A_irem_d {l : Launch} {G : Gm} {K : Cx} {Q : Option Value → HP → Prop} {cc : ByteArray} {nL : Nat} {own : String} {ret : Option FieldType} {rm : Room} {pc q : Nat} {L : Nat → Option Value} {st : List Value} {c : HP} {x y z : Int} (X : Fx l G K cc nL own ret rm) (d : decode cc pc = .ok (.irem, 1)) (h : zI x - zI x / zI y * zI y = zI z) (hy : ¬ zI y = 0) (hq : pc + 1 = q)
    (kk : AW G K Q q (L) (.int (zI z) :: st) c) : AW G K Q pc L (.int (zI y) :: .int (zI x) :: st) c := by
  subst hq
  obtain ⟨p, l1, e, R, s, m, args, below, meth, cd⟩ := K
  obtain ⟨hx, hb, hml, hown, hts, hK, hinj, hr, hlocks, hR, hl1, hns⟩ := X
  intro H locs ls hP hS hl
  exact lv_irem hx hb d hy (by rw [h]; exact kk H locs ls hP hS hl)
theorem rlZ_eq {l : List Int} {p : Nat} {mg : Prop} {dm : Decidable mg} (h : XG l) (hp : p < l.length) : (l.getD p 0 = 1000 → p + 1 < l.length ∧ rlZ l ((p : Nat) : Int) mg = if l.getD (p + 1) 0 = 1001 then 0 else -9) ∧ (l.getD p 0 ≠ 1000 → l.getD p 0 < 1000000 → rlZ l ((p : Nat) : Int) mg = -9) ∧ (1000000 ≤ l.getD p 0 → p + 1 < l.length ∧ rlZ l ((p : Nat) : Int) mg = if l.getD (p + 1) 0 = 1000 then 1 else if l.getD (p + 1) 0 = 1001 then 2 else if l.getD (p + 1) 0 < 1000 then 3 else if mg then 4 else -9) := by
  have e0 := tkA_in (l := l) (k := p) (p := ((p : Nat) : Int)) rfl hp
  refine ⟨fun q => ?_, fun q1 q2 => ?_, fun q => ?_⟩
  · have hp1 : p + 1 < l.length := h.next hp (by rw [q]; decide)
    have e1 := tkA_in (l := l) (k := p + 1) (p := ((p : Nat) : Int) + 1) (by omega) hp1
    refine ⟨hp1, ?_⟩
    unfold rlZ
    rw [e0, e1, if_pos (by rw [q]; decide)]
    have t1 := h.ta hp1
    by_cases z : l.getD (p + 1) 0 = 1001
    · rw [if_pos z, if_pos (by rw [z]; decide)]
    · rw [if_neg z, if_neg (by unfold tkE; split <;> omega)]
  · unfold rlZ
    have t1 := h.ta hp
    rw [e0, if_neg (by rw [tkE_p q2]; exact q1), if_pos (by rw [tkE_p q2]; omega)]
  · have hp1 : p + 1 < l.length := h.next hp (by unfold prt; rw [if_pos q]; omega)
    have e1 := tkA_in (l := l) (k := p + 1) (p := ((p : Nat) : Int) + 1) (by omega) hp1
    refine ⟨hp1, ?_⟩
    have t0 : tkE (l.getD p 0) = 1002 := by unfold tkE; rw [if_pos q]
    have t1 := h.ta hp1
    unfold rlZ
    rw [e0, e1, t0, if_neg (by decide), if_neg (by decide)]
    generalize l.getD (p + 1) 0 = b at t1
    unfold tkE
    by_cases z : 1000000 ≤ b
    · rw [if_pos z, if_neg (show ¬ (1002 : Int) = 1000 by decide), if_neg (show ¬ (1002 : Int) = 1001 by decide), if_pos (show (1002 : Int) = 1002 from rfl), if_neg (show ¬ b = 1000 by omega), if_neg (show ¬ b = 1001 by omega), if_neg (show ¬ b < 1000 by omega)]
    · rw [if_neg z]
      by_cases z1 : b = 1000
      · rw [if_pos z1, if_pos z1]
      · rw [if_neg z1, if_neg z1]
        by_cases z2 : b = 1001
        · rw [if_pos z2, if_pos z2]
        · rw [if_neg z2, if_neg z2, if_neg (by omega), if_pos (by omega)]
set_option maxRecDepth 100000 in
set_option maxHeartbeats 4000000 in
theorem c_X9_add {l : Launch} {G : Gm} {c : HP} {x : List Int} {t : Int} {th ts rmb obn pk : Int} {sd : Int64} (hG : injG G) (hN : G.2.1 = 72) (hA : AX G c th ts rmb obn sd pk x) : AMet l G yX9_add cX9_add 2 (none) (rmR 0 0) [.ref (G.1 55), .int (zI t)] c (Qv (fun c' => AX G c' th ts rmb obn sd pk (x ++ [t]) ∧ (∀ k, k ≠ 55 → k ≠ 70 → c' k = c k))) := by
  refine AMet.of (vl := [some (.ref (G.1 55)), some (.int (zI t))]) (by decide) hG (Nat.le_of_ble_eq_true rfl) rfl ?_
  intro K X
  have X : Fx l G K cX9_add 2 RX9 (none) (rmR 0 0) := X
  obtain ⟨tw, h55, ⟨F, h70, hN0⟩, hNw⟩ := hA
  have hal : (x ++ [t]).length = x.length + 1 := by rw [List.length_append]; rfl
  refine A_aload_n (q := 1) X dX9_add_0 rfl rfl ?_
  refine A_aload_n (q := 2) X dX9_add_1 rfl rfl ?_
  refine A_getf (q := 5) X fX9_161 dX9_add_2 (by omega) h55 rfl rfl ?_
  refine A_if_ne (q := 8) (t := 22) X dX9_add_5 (by omega) rfl rfl (fun hb5 => ?_) (fun hb5 => ?_)
  · refine A_iconst (q := 23) X dX9_add_22 rfl ?_
    refine A_goto (q := 27) X dX9_add_23 rfl ?_
    refine A_putf (q := 30) X pX9_161 dX9_add_27 (by omega) h55 (Nat.le_of_ble_eq_true rfl) (bz_ok (Or.inr rfl)).1 (bz_ok (Or.inr rfl)).2 rfl ?_
    refine A_aload_n (q := 31) X dX9_add_30 rfl rfl ?_
    refine A_getf (q := 34) X fX9_161 dX9_add_31 (by omega) lk_eq rfl rfl ?_
    refine A_if_ne (q := 37) (t := 63) X dX9_add_34 (by decide) rfl rfl (fun hb34 => ?_) (fun hb34 => ?_)
    · exact A_return X dX9_add_63 ⟨⟨1, lk_eq, ⟨F, (lk_ne (by omega) h70), fun z => absurd z (by decide)⟩, Or.inr ⟨rfl, by omega⟩⟩, (fun k n0 n1 => (lk_ne (by omega) rfl))⟩
    · exact absurd hb34 (by decide)
  · refine A_aload_n (q := 9) X dX9_add_8 rfl rfl ?_
    refine A_getf (q := 12) X fX9_53 dX9_add_9 (by omega) h55 rfl rfl ?_
    refine A_sipush (q := 15) X dX9_add_12 (by decide) rfl ?_
    refine A_iald (q := 16) (h := 70) 320 X dX9_add_15 (by omega) h70 (by omega) (by omega) (by decide) rfl ?_
    obtain ⟨hxl, hS, hF⟩ := hN0 (by omega)
    rw [hS]
    refine A_sipush (q := 19) X dX9_add_16 (by decide) rfl ?_
    refine A_icmp_ne (q := 22) (t := 26) X dX9_add_19 (by omega) (by decide) rfl rfl (fun hb19 => ?_) (fun hb19 => ?_)
    · refine A_iconst (q := 27) X dX9_add_26 rfl ?_
      refine A_putf (q := 30) X pX9_161 dX9_add_27 (by omega) h55 (Nat.le_of_ble_eq_true rfl) (bz_ok (Or.inl rfl)).1 (bz_ok (Or.inl rfl)).2 rfl ?_
      refine A_aload_n (q := 31) X dX9_add_30 rfl rfl ?_
      refine A_getf (q := 34) X fX9_161 dX9_add_31 (by omega) lk_eq rfl rfl ?_
      refine A_if_ne (q := 37) (t := 63) X dX9_add_34 (by decide) rfl rfl (fun hb34 => ?_) (fun hb34 => ?_)
      · exact absurd hb34 (by decide)
      · refine A_aload_n (q := 38) X dX9_add_37 rfl rfl ?_
        refine A_getf (q := 41) X fX9_53 dX9_add_38 (by omega) lk_eq rfl rfl ?_
        refine A_aload_n (q := 42) X dX9_add_41 rfl rfl ?_
        refine A_getf (q := 45) X fX9_53 dX9_add_42 (by omega) lk_eq rfl rfl ?_
        refine A_sipush (q := 48) X dX9_add_45 (by decide) rfl ?_
        refine A_iald (q := 49) (h := 70) 320 X dX9_add_48 (by omega) (lk_ne (by omega) h70) (by omega) (by omega) (by decide) rfl ?_
        rw [hS]
        refine A_iload_n (q := 50) X dX9_add_49 rfl rfl ?_
        refine A_iast (q := 51) (h := 70) (x.length) X dX9_add_50 (by omega) (lk_ne (by omega) h70) (by omega) (by omega) (by decide) rfl ?_
        refine A_aload_n (q := 52) X dX9_add_51 rfl rfl ?_
        refine A_getf (q := 55) X fX9_53 dX9_add_52 (by omega) (lk_ne (by omega) lk_eq) rfl rfl ?_
        refine A_sipush (q := 58) X dX9_add_55 (by decide) rfl ?_
        refine A_dup2 (q := 59) X dX9_add_58 rfl rfl rfl ?_
        refine A_iald (q := 60) (h := 70) 320 X dX9_add_59 (by omega) lk_eq (by omega) (by omega) (by decide) rfl ?_
        rw [show va_up F x.length t 320 = ((x.length : Nat) : Int) from lk_ne (by omega) hS]
        refine A_iconst (q := 61) X dX9_add_60 rfl ?_
        refine A_iadd (q := 62) X dX9_add_61 rfl ?_
        refine A_iast (q := 63) (h := 70) 320 X dX9_add_62 (by omega) lk_eq (by omega) (by omega) (by decide) rfl ?_
        exact A_return X dX9_add_63 ⟨⟨0, (lk_ne (by omega) (lk_ne (by omega) lk_eq)), ⟨_, lk_eq, fun _ => ⟨by omega, by refine lk_eq.trans ?_; omega, fun k hk => lk_ne (by omega) (by by_cases e : k = x.length; (subst e; rw [getD_app_last]; exact lk_eq); exact lk_ne e ((hF k (by omega)).trans (getD_app_lt (by omega)).symm))⟩⟩, Or.inl rfl⟩, (fun k n0 n1 => (lk_ne (by omega) (lk_ne (by omega) (lk_ne (by omega) rfl))))⟩
    · refine A_iconst (q := 23) X dX9_add_22 rfl ?_
      refine A_goto (q := 27) X dX9_add_23 rfl ?_
      refine A_putf (q := 30) X pX9_161 dX9_add_27 (by omega) h55 (Nat.le_of_ble_eq_true rfl) (bz_ok (Or.inr rfl)).1 (bz_ok (Or.inr rfl)).2 rfl ?_
      refine A_aload_n (q := 31) X dX9_add_30 rfl rfl ?_
      refine A_getf (q := 34) X fX9_161 dX9_add_31 (by omega) lk_eq rfl rfl ?_
      refine A_if_ne (q := 37) (t := 63) X dX9_add_34 (by decide) rfl rfl (fun hb34 => ?_) (fun hb34 => ?_)
      · exact A_return X dX9_add_63 ⟨⟨1, lk_eq, ⟨F, (lk_ne (by omega) h70), fun z => absurd z (by decide)⟩, Or.inr ⟨rfl, by omega⟩⟩, (fun k n0 n1 => (lk_ne (by omega) rfl))⟩
      · exact absurd hb34 (by decide)
set_option maxRecDepth 100000 in
set_option maxHeartbeats 4000000 in
theorem lp_X9_addPart {l : Launch} {G : Gm} {K : Cx} {c0 : HP} {x wl : List Int} {F : Nat → Int} {i j : Nat} {th ts rmb obn pk : Int} {sd : Int64} (X : Fx l G K cX9_addPart 4 RX9 (none) (rmR 1 21)) (hG : injG G) (hN : G.2.1 = 72) (h069 : c0 69 = aI G 321 F) (hwl : wl.length ≤ 300) (hWF : ∀ k, k < wl.length → F k = wl.getD k 0) (hj : j ≤ wl.length) : ∀ (n : Nat) (p : Nat) (c : HP), j - p < n → i ≤ p ∧ p ≤ j → AX G c th ts rmb obn sd pk (x ++ sl wl i p) → (∀ k, k ≠ 55 → k ≠ 70 → c k = c0 k) → AW G K (Qv (fun c' => AX G c' th ts rmb obn sd pk (x ++ sl wl i j) ∧ (∀ k, k ≠ 55 → k ≠ 70 → c' k = c0 k))) 2 (mkL [some (.ref (G.1 55)), none, some (.int (zI ((j : Nat) : Int))), some (.int (zI ((p : Nat) : Int)))]) [] c := by
  intro n
  induction n with
  | zero => intro p c hmz; exact absurd hmz (Nat.not_lt_zero _)
  | succ n ih =>
    intro p c hmz hp hA hf0
    have h69 := (hf0 69 (by decide) (by decide)).trans h069
    refine A_iload_n (q := 3) X dX9_addPart_2 rfl rfl ?_
    refine A_iload_n (q := 4) X dX9_addPart_3 rfl rfl ?_
    refine A_icmp_ge (q := 7) (t := 23) X dX9_addPart_4 (by omega) (by omega) rfl rfl (fun hb4 => ?_) (fun hb4 => ?_)
    · exact A_return X dX9_addPart_23 ⟨by rw [show p = j by omega] at hA; exact hA, hf0⟩
    · refine A_aload_n (q := 8) X dX9_addPart_7 rfl rfl ?_
      refine A_aload_n (q := 9) X dX9_addPart_8 rfl rfl ?_
      refine A_getf (q := 12) X fX9_50 dX9_addPart_9 (by omega) hA.choose_spec.1 rfl rfl ?_
      refine A_iload_n (q := 13) X dX9_addPart_12 rfl rfl ?_
      refine A_iald (q := 14) (h := 69) (p) X dX9_addPart_13 (by omega) h69 (by omega) (by omega) (by decide) rfl ?_
      rw [hWF (p) (by omega)]
      refine A_V1v (q := 17) X (c_X9_add (t := (wl.getD (p) 0)) hG hN hA) mX9_add kX9_165 dX9_addPart_14 (by omega) hA.choose_spec.1 rfl (by decide) (Nat.le_of_ble_eq_true rfl) rfl (fun cq_2 hq_1 => ?_)
      obtain ⟨hA_3, hf_4⟩ := hq_1
      refine A_iinc (q := 20) X dX9_addPart_17 rfl (by decide) (okP_s rfl rfl) rfl ?_
      refine A_goto (q := 2) X dX9_addPart_20 rfl ?_
      exact AW.loc (sS rfl (sN (sS rfl (sZ rfl (by omega) sE)))) (ih (p + 1) _ (by omega) (by omega) (AX_eq hA_3 (by rw [List.append_assoc, ← sl_one (by omega), sl_join (by omega) (by omega)])) (fun k n0 n1 => ((hf_4 k (by omega) (by omega)).trans (hf0 k n0 n1))))
set_option maxRecDepth 100000 in
set_option maxHeartbeats 4000000 in
theorem c_X9_addPart {l : Launch} {G : Gm} {c : HP} {x wl : List Int} {i j : Nat} {th ts rmb obn pk : Int} {sd : Int64} (hG : injG G) (hN : G.2.1 = 72) (hA : AX G c th ts rmb obn sd pk x) (hWw : Ww G c wl) (hij : i ≤ j) (hj : j ≤ wl.length) : AMet l G yX9_addPart cX9_addPart 4 (none) (rmR 1 21) [.ref (G.1 55), .int (zI ((i : Nat) : Int)), .int (zI ((j : Nat) : Int))] c (Qv (fun c' => AX G c' th ts rmb obn sd pk (x ++ sl wl i j) ∧ (∀ k, k ≠ 55 → k ≠ 70 → c' k = c k))) := by
  refine AMet.of (vl := [some (.ref (G.1 55)), some (.int (zI ((i : Nat) : Int))), some (.int (zI ((j : Nat) : Int)))]) (by decide) hG (Nat.le_of_ble_eq_true rfl) rfl ?_
  intro K X
  have X : Fx l G K cX9_addPart 4 RX9 (none) (rmR 1 21) := X
  obtain ⟨hwl, F, h69, hWS, hWF⟩ := (id hWw : Ww G c wl)
  refine A_iload_n (q := 1) X dX9_addPart_0 rfl rfl ?_
  refine A_istore_n (q := 2) X dX9_addPart_1 (by decide) (okP_s rfl rfl) rfl ?_
  exact AW.loc (sS rfl (sN (sS rfl (sS rfl sE)))) (lp_X9_addPart X hG hN h69 hwl hWF hj _ i c (Nat.lt_succ_self _) ⟨Nat.le_refl _, hij⟩ (AX_eq hA (by rw [sl_nil, List.append_nil])) (fun _ _ _ => rfl))
theorem c_endW {l : Launch} {G : Gm} {c : HP} {wl : List Int} {p : Nat} (hG : injG G) (hN : G.2.1 = 72) (hWw : Ww G c wl) (hXG : XG wl) (hp : p < wl.length) : AMet l G yX9_end cX9_end 4 ((some .int)) (rmR 1 20) [.ref (G.1 69), .int (zI ((p : Nat) : Int))] c (Qi (fun v c' => v = zI ((bh wl p 1 : Nat) : Int) ∧ c' = c)) := by
  obtain ⟨hwl, F, h69, hWS, hWF⟩ := (id hWw : Ww G c wl)
  obtain ⟨c1, x, post, h1, h2, h3⟩ := wfr_cut hXG.2 hp
  have e : bh wl p 1 = p + x.length := h3
  rw [e]
  exact c_X9_end hG (by omega) h69 (by decide) (by omega) hWF h1 h2 (fun t ht => hXG.tk t (List.mem_of_mem_drop (h1 ▸ List.mem_append_left _ ht)))
set_option maxRecDepth 100000 in
set_option maxHeartbeats 4000000 in
theorem c_X9_ruleAt {l : Launch} {G : Gm} {c : HP} {wl : List Int} {p : Nat} {mg : Prop} {dm : Decidable mg} {tw : Int} {th ts rmb obn pk : Int} {sd : Int64} (hG : injG G) (hN : G.2.1 = 72) (h55 : c 55 = ob9 G th ts rmb obn sd tw pk) (hWw : Ww G c wl) (hXG : XG wl) (hp : p < wl.length) : AMet l G yX9_ruleAt cX9_ruleAt 4 ((some .int)) (rmR 1 20) [.ref (G.1 55), .int (zI ((p : Nat) : Int)), .int (zI (if mg then 1 else 0 : Int))] c (Qi (fun v c' => v = zI (rlZ wl ((p : Nat) : Int) mg) ∧ c' = c)) := by
  refine AMet.of (vl := [some (.ref (G.1 55)), some (.int (zI ((p : Nat) : Int))), some (.int (zI (if mg then 1 else 0 : Int)))]) (by decide) hG (Nat.le_of_ble_eq_true rfl) rfl ?_
  intro K X
  have X : Fx l G K cX9_ruleAt 4 RX9 ((some .int)) (rmR 1 20) := X
  obtain ⟨hwl, F, h69, hWS, hWF⟩ := (id hWw : Ww G c wl)
  obtain ⟨r1, r2, r3⟩ := rlZ_eq (mg := mg) (dm := dm) hXG hp
  have ht0 := hXG.ta hp
  refine A_aload_n (q := 1) X dX9_ruleAt_0 rfl rfl ?_
  refine A_getf (q := 4) X fX9_50 dX9_ruleAt_1 (by omega) h55 rfl rfl ?_
  refine A_iload_n (q := 5) X dX9_ruleAt_4 rfl rfl ?_
  refine A_iald (q := 6) (h := 69) (p) X dX9_ruleAt_5 (by omega) h69 (by omega) (by omega) (by decide) rfl ?_
  rw [hWF (p) (by omega)]
  refine A_sipush (q := 9) X dX9_ruleAt_6 (by decide) rfl ?_
  refine A_icmp_ne (q := 12) (t := 33) X dX9_ruleAt_9 (by omega) (by decide) rfl rfl (fun hb9 => ?_) (fun hb9 => ?_)
  · refine A_aload_n (q := 34) X dX9_ruleAt_33 rfl rfl ?_
    refine A_getf (q := 37) X fX9_50 dX9_ruleAt_34 (by omega) h55 rfl rfl ?_
    refine A_iload_n (q := 38) X dX9_ruleAt_37 rfl rfl ?_
    refine A_iald (q := 39) (h := 69) (p) X dX9_ruleAt_38 (by omega) h69 (by omega) (by omega) (by decide) rfl ?_
    rw [hWF (p) (by omega)]
    refine A_ldc (q := 41) (n := 1000000) X dX9_ruleAt_39 nX9_63 (by decide) rfl ?_
    refine A_icmp_ge (q := 44) (t := 47) X dX9_ruleAt_41 (by omega) (by decide) rfl rfl (fun hb41 => ?_) (fun hb41 => ?_)
    · obtain ⟨hp1, er⟩ := r3 (by omega)
      have ht1 := hXG.ta hp1
      refine A_aload_n (q := 48) X dX9_ruleAt_47 rfl rfl ?_
      refine A_getf (q := 51) X fX9_50 dX9_ruleAt_48 (by omega) h55 rfl rfl ?_
      refine A_iload_n (q := 52) X dX9_ruleAt_51 rfl rfl ?_
      refine A_iconst (q := 53) X dX9_ruleAt_52 rfl ?_
      refine A_iadd (q := 54) X dX9_ruleAt_53 rfl ?_
      refine A_iald (q := 55) (h := 69) ((p) + 1) X dX9_ruleAt_54 (by omega) h69 (by omega) (by omega) (by decide) rfl ?_
      rw [hWF ((p) + 1) (by omega)]
      refine A_istore_n (q := 56) X dX9_ruleAt_55 (by decide) (okP_s rfl rfl) rfl ?_
      refine A_iload_n (q := 57) X dX9_ruleAt_56 rfl rfl ?_
      refine A_sipush (q := 60) X dX9_ruleAt_57 (by decide) rfl ?_
      refine A_icmp_ne (q := 63) (t := 67) X dX9_ruleAt_60 (by omega) (by decide) rfl rfl (fun hb60 => ?_) (fun hb60 => ?_)
      · refine A_iload_n (q := 68) X dX9_ruleAt_67 rfl rfl ?_
        refine A_sipush (q := 71) X dX9_ruleAt_68 (by decide) rfl ?_
        refine A_icmp_ne (q := 74) (t := 78) X dX9_ruleAt_71 (by omega) (by decide) rfl rfl (fun hb71 => ?_) (fun hb71 => ?_)
        · refine A_iload_n (q := 79) X dX9_ruleAt_78 rfl rfl ?_
          refine A_S1i (q := 82) X (c_X9_isVariable hG (by omega)) mX9_isVariable kX9_68 dX9_ruleAt_79 (by decide) (Nat.le_of_ble_eq_true rfl) rfl (fun vq_3 cq_2 hq_1 => ?_)
          obtain ⟨rfl, hq_1⟩ := hq_1
          obtain rfl := hq_1.symm
          refine A_beq (q := 85) (t := 89) X dX9_ruleAt_82 rfl rfl (fun hb82 => ?_) (fun hb82 => ?_)
          · refine A_iload_n (q := 90) X dX9_ruleAt_89 rfl rfl ?_
            refine A_beq (q := 93) (t := 97) X dX9_ruleAt_90 rfl rfl (fun hb90 => ?_) (fun hb90 => ?_)
            · refine A_bipush (q := 99) X dX9_ruleAt_97 (by decide) rfl ?_
              exact A_ireturn X dX9_ruleAt_99 ⟨congrArg zI (by first | exact er.symm | (rw [er]; split <;> (try split) <;> (try split) <;> (try split) <;> first | omega | contradiction)), rfl⟩
            · refine A_iconst (q := 94) X dX9_ruleAt_93 rfl ?_
              refine A_goto (q := 99) X dX9_ruleAt_94 rfl ?_
              exact A_ireturn X dX9_ruleAt_99 ⟨congrArg zI (by first | exact er.symm | (rw [er]; split <;> (try split) <;> (try split) <;> (try split) <;> first | omega | contradiction)), rfl⟩
          · refine A_iconst (q := 86) X dX9_ruleAt_85 rfl ?_
            refine A_goto (q := 99) X dX9_ruleAt_86 rfl ?_
            exact A_ireturn X dX9_ruleAt_99 ⟨congrArg zI (by first | exact er.symm | (rw [er]; split <;> (try split) <;> (try split) <;> (try split) <;> first | omega | contradiction)), rfl⟩
        · refine A_iconst (q := 75) X dX9_ruleAt_74 rfl ?_
          refine A_goto (q := 99) X dX9_ruleAt_75 rfl ?_
          exact A_ireturn X dX9_ruleAt_99 ⟨congrArg zI (by first | exact er.symm | (rw [er]; split <;> (try split) <;> (try split) <;> (try split) <;> first | omega | contradiction)), rfl⟩
      · refine A_iconst (q := 64) X dX9_ruleAt_63 rfl ?_
        refine A_goto (q := 99) X dX9_ruleAt_64 rfl ?_
        exact A_ireturn X dX9_ruleAt_99 ⟨congrArg zI (by first | exact er.symm | (rw [er]; split <;> (try split) <;> (try split) <;> (try split) <;> first | omega | contradiction)), rfl⟩
    · have er := r2 (by omega) (by omega)
      refine A_bipush (q := 46) X dX9_ruleAt_44 (by decide) rfl ?_
      exact A_ireturn X dX9_ruleAt_46 ⟨congrArg zI (by first | exact er.symm | (rw [er]; split <;> (try split) <;> (try split) <;> (try split) <;> first | omega | contradiction)), rfl⟩
  · obtain ⟨hp1, er⟩ := r1 (by omega)
    have ht1 := hXG.ta hp1
    refine A_aload_n (q := 13) X dX9_ruleAt_12 rfl rfl ?_
    refine A_getf (q := 16) X fX9_50 dX9_ruleAt_13 (by omega) h55 rfl rfl ?_
    refine A_iload_n (q := 17) X dX9_ruleAt_16 rfl rfl ?_
    refine A_iconst (q := 18) X dX9_ruleAt_17 rfl ?_
    refine A_iadd (q := 19) X dX9_ruleAt_18 rfl ?_
    refine A_iald (q := 20) (h := 69) ((p) + 1) X dX9_ruleAt_19 (by omega) h69 (by omega) (by omega) (by decide) rfl ?_
    rw [hWF ((p) + 1) (by omega)]
    refine A_sipush (q := 23) X dX9_ruleAt_20 (by decide) rfl ?_
    refine A_icmp_ne (q := 26) (t := 30) X dX9_ruleAt_23 (by omega) (by decide) rfl rfl (fun hb23 => ?_) (fun hb23 => ?_)
    · refine A_bipush (q := 32) X dX9_ruleAt_30 (by decide) rfl ?_
      exact A_ireturn X dX9_ruleAt_32 ⟨congrArg zI (by first | exact er.symm | (rw [er]; split <;> (try split) <;> (try split) <;> (try split) <;> first | omega | contradiction)), rfl⟩
    · refine A_iconst (q := 27) X dX9_ruleAt_26 rfl ?_
      refine A_goto (q := 32) X dX9_ruleAt_27 rfl ?_
      exact A_ireturn X dX9_ruleAt_32 ⟨congrArg zI (by first | exact er.symm | (rw [er]; split <;> (try split) <;> (try split) <;> (try split) <;> first | omega | contradiction)), rfl⟩
