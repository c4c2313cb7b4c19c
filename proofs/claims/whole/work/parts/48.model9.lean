/-! THE MODEL's world -/
theorem c_inZ {l : Launch} {G : Gm} {c : HP} {x y z : Int64} {a b d : Int} (hG : injG G) (hx : x = (zI a).toInt64) (hy : y = (zI b).toInt64) (hz : z = (zI d).toInt64) (ha : rg a) (hb : rg b) (hd : rg d) : AMet l G yX9_in cX9_in 6 ((some .boolean)) (rmR 0 0) [.long x, .long y, .long z] c (Qi (fun v c' => v = zI (if b ≤ a ∧ a ≤ d then 1 else 0) ∧ c' = c)) := by
  subst hx hy hz
  exact c_in hG ha hb hd
def Tx9 (G : Gm) (c : HP) (x : List Int) : Prop := x.length ≤ 60 ∧ (∀ t ∈ x, 0 ≤ t ∧ t ≤ 255) ∧ ∃ F : Nat → Int, c 56 = aI G 60 F ∧ ∀ k, k < x.length → F k = x.getD k 0
theorem Tx9.keep {G : Gm} {c c' : HP} {x : List Int} (h : Tx9 G c x) (e : c' 56 = c 56) : Tx9 G c' x := ⟨h.1, h.2.1, _, e.trans h.2.2.choose_spec.1, h.2.2.choose_spec.2⟩
def Hs9 (G : Gm) (c : HP) (hs : List (List Int)) : Prop := hs.length ≤ 14 ∧ (∀ q ∈ hs, Gd q) ∧ ∃ F : Nat → Int, c 61 = aI G 2814 F ∧ Hm F hs
theorem Hs9.keep {G : Gm} {c c' : HP} {hs : List (List Int)} (h : Hs9 G c hs) (e : c' 61 = c 61) : Hs9 G c' hs := ⟨h.1, h.2.1, _, e.trans h.2.2.choose_spec.1, h.2.2.choose_spec.2⟩
def SlR (F U : Nat → Int) (j : Nat) (s : List Int) : Prop := U j = (if s = [] then 0 else 1) ∧ (s ≠ [] → Hr F j s) ∧ (s = [] ∨ Gd s)
def Sl9 (G : Gm) (c : HP) (s0 s1 : List Int) : Prop := ∃ F U : Nat → Int, c 62 = aI G 402 F ∧ c 63 = aZ G 2 U ∧ SlR F U 0 s0 ∧ SlR F U 1 s1
theorem Sl9.keep {G : Gm} {c c' : HP} {s0 s1 : List Int} (h : Sl9 G c s0 s1) (e1 : c' 62 = c 62) (e2 : c' 63 = c 63) : Sl9 G c' s0 s1 := by
  obtain ⟨F, U, h1, h2, h3⟩ := h
  exact ⟨F, U, e1.trans h1, e2.trans h2, h3⟩
def Ob9 (G : Gm) (c : HP) (o : List (Int × Int)) : Prop := o.length ≤ 6 ∧ (∀ q ∈ o, (0 ≤ q.1 ∧ q.1 ≤ 50) ∧ 1 ≤ q.2 ∧ q.2 ≤ 200) ∧ ∃ F V : Nat → Int, c 64 = aI G 6 F ∧ c 65 = aI G 6 V ∧ ∀ k, k < o.length → o.getD k (0, 0) = (F k, V k)
theorem Ob9.keep {G : Gm} {c c' : HP} {o : List (Int × Int)} (h : Ob9 G c o) (e1 : c' 64 = c 64) (e2 : c' 65 = c 65) : Ob9 G c' o := by
  obtain ⟨h1, h2, F, V, h3, h4, h5⟩ := h
  exact ⟨h1, h2, F, V, e1.trans h3, e2.trans h4, h5⟩
def Wd9 (G : Gm) (c : HP) : Prop := (∃ F, c 69 = aI G 321 F) ∧ (∃ F, c 70 = aI G 321 F) ∧ (∃ F, c 71 = aI G 5 F)
theorem Wd9.keep {G : Gm} {c c' : HP} (h : Wd9 G c) (e1 : c' 69 = c 69) (e2 : c' 70 = c 70) (e3 : c' 71 = c 71) : Wd9 G c' := ⟨⟨_, e1.trans h.1.choose_spec⟩, ⟨_, e2.trans h.2.1.choose_spec⟩, ⟨_, e3.trans h.2.2.choose_spec⟩⟩
def WM (G : Gm) (c : HP) (S : SS) : Prop := G.2.1 = 72 ∧ (∃ th tw pk, c 55 = ob9 G th ((S.2.1.length : Nat) : Int) ((S.2.2.1.length : Nat) : Int) ((S.2.2.2.2.2.1.length : Nat) : Int) S.2.2.2.2.2.2 tw pk ∧ (tw = 0 ∨ tw = 1)) ∧ Tx9 G c S.2.1 ∧ Mt G c 57 S.1 ∧ Gd S.1 ∧ Mr G c 58 ∧ Mr G c 59 ∧ Mr G c 60 ∧ Hs9 G c S.2.2.1 ∧ Sl9 G c S.2.2.2.1 S.2.2.2.2.1 ∧ Ob9 G c S.2.2.2.2.2.1 ∧ Sc G c ∧ Wd9 G c
set_option maxRecDepth 100000 in
set_option maxHeartbeats 4000000 in
theorem c_X9_size {l : Launch} {G : Gm} {c : HP} {tm x : List Int} {hs : List (List Int)} {s0 s1 : List Int} {o : List (Int × Int)} {sd : Int64} (hG : injG G)  (hW : WM G c (tm, x, hs, s0, s1, o, sd)) : AMet l G yX9_size cX9_size 1 ((some .int)) (rmR 0 0) [.ref (G.1 55)] c (Qi (fun v c' => v = zI (fSize (tm, x, hs, s0, s1, o, sd)).1 ∧ WM G c' (fSize (tm, x, hs, s0, s1, o, sd)).2 ∧ (∀ k, k < 55 → c' k = c k))) := by
  refine AMet.of (vl := [some (.ref (G.1 55))]) (by decide) hG (Nat.le_of_ble_eq_true rfl) rfl ?_
  intro K X
  have X : Fx l G K cX9_size 1 RX9 ((some .int)) (rmR 0 0) := X
  obtain ⟨hN, ⟨th, tw, pk, h55, htw⟩, hX, hT, hgd, hR8, hR9, hO, hH, hV, hB, hSc, hWd⟩ := hW
  dsimp only at h55 hX hT hgd hH hV hB
  have hl0 := hT.len
  have hxl := hX.1
  have hhl := hH.1
  have hol := hB.1
  have hT0 := hT
  obtain ⟨ha0, -, F, h57, hS, hF⟩ := hT0
  refine A_aload_n (q := 1) X dX9_size_0 rfl rfl ?_
  refine A_iconst (q := 2) X dX9_size_1 rfl ?_
  refine A_putf (q := 5) X pX9_59 dX9_size_2 (by omega) h55 (Nat.le_of_ble_eq_true rfl) rfl rfl rfl ?_
  refine A_aload_n (q := 6) X dX9_size_5 rfl rfl ?_
  refine A_getf (q := 9) X fX9_13 dX9_size_6 (by omega) lk_eq rfl rfl ?_
  refine A_sipush (q := 12) X dX9_size_9 (by decide) rfl ?_
  refine A_iald (q := 13) (h := 57) 200 X dX9_size_12 (by omega) (lk_ne (by omega) h57) (by omega) (by omega) (by decide) rfl ?_
  rw [hS]
  have e9 : fSize (tm, x, hs, s0, s1, o, sd) = (((tm.length : Nat) : Int), (tm, x, hs, s0, s1, o, sd)) := by rfl
  exact A_ireturn X dX9_size_13 ⟨rfl, by rw [e9]; exact ⟨hN, ⟨_, _, _, lk_eq, htw⟩, (hX.keep (lk_ne (by omega) rfl)), (hT.keep (lk_ne (by omega) rfl)), hgd, (hR8.keep (lk_ne (by omega) rfl)), (hR9.keep (lk_ne (by omega) rfl)), (hO.keep (lk_ne (by omega) rfl)), (hH.keep (lk_ne (by omega) rfl)), (hV.keep (lk_ne (by omega) rfl) (lk_ne (by omega) rfl)), (hB.keep (lk_ne (by omega) rfl) (lk_ne (by omega) rfl)), (hSc.keep (lk_ne (by omega) rfl) (lk_ne (by omega) rfl) (lk_ne (by omega) rfl)), (hWd.keep (lk_ne (by omega) rfl) (lk_ne (by omega) rfl) (lk_ne (by omega) rfl))⟩, (fun k n0 => (lk_ne (by omega) rfl))⟩
set_option maxRecDepth 100000 in
set_option maxHeartbeats 4000000 in
theorem c_X9_tokenAt {l : Launch} {G : Gm} {c : HP} {tm x : List Int} {hs : List (List Int)} {s0 s1 : List Int} {o : List (Int × Int)} {sd : Int64} {p : Int} (hG : injG G) (hpr : rg p) (hW : WM G c (tm, x, hs, s0, s1, o, sd)) : AMet l G yX9_tokenAt cX9_tokenAt 2 ((some .int)) (rmR 1 25) [.ref (G.1 55), .int (zI p)] c (Qi (fun v c' => v = zI (fTok p (tm, x, hs, s0, s1, o, sd)).1 ∧ WM G c' (fTok p (tm, x, hs, s0, s1, o, sd)).2 ∧ (∀ k, k < 55 → c' k = c k))) := by
  refine AMet.of (vl := [some (.ref (G.1 55)), some (.int (zI p))]) (by decide) hG (Nat.le_of_ble_eq_true rfl) rfl ?_
  intro K X
  have X : Fx l G K cX9_tokenAt 2 RX9 ((some .int)) (rmR 1 25) := X
  obtain ⟨hN, ⟨th, tw, pk, h55, htw⟩, hX, hT, hgd, hR8, hR9, hO, hH, hV, hB, hSc, hWd⟩ := hW
  dsimp only at h55 hX hT hgd hH hV hB
  have hl0 := hT.len
  have hxl := hX.1
  have hhl := hH.1
  have hol := hB.1
  have hT0 := hT
  obtain ⟨ha0, -, F, h57, hS, hF⟩ := hT0
  have hpos := hgd.pos
  refine A_aload_n (q := 1) X dX9_tokenAt_0 rfl rfl ?_
  refine A_iconst (q := 2) X dX9_tokenAt_1 rfl ?_
  refine A_putf (q := 5) X pX9_59 dX9_tokenAt_2 (by omega) h55 (Nat.le_of_ble_eq_true rfl) rfl rfl rfl ?_
  refine A_iload_n (q := 6) X dX9_tokenAt_5 rfl rfl ?_
  refine A_i2l (q := 7) X dX9_tokenAt_6 rfl ?_
  refine A_lconst (q := 8) (v := 0) X dX9_tokenAt_7 rfl rfl ?_
  refine A_aload_n (q := 9) X dX9_tokenAt_8 rfl rfl ?_
  refine A_getf (q := 12) X fX9_13 dX9_tokenAt_9 (by omega) lk_eq rfl rfl ?_
  refine A_sipush (q := 15) X dX9_tokenAt_12 (by decide) rfl ?_
  refine A_iald (q := 16) (h := 57) 200 X dX9_tokenAt_15 (by omega) (lk_ne (by omega) h57) (by omega) (by omega) (by decide) rfl ?_
  rw [hS]
  refine A_iconst (q := 17) X dX9_tokenAt_16 rfl ?_
  refine A_isub (q := 18) X dX9_tokenAt_17 rfl ?_
  refine A_i2l (q := 19) X dX9_tokenAt_18 rfl ?_
  refine A_S3i (q := 22) X (c_inZ (a := p) (b := 0) (d := (((tm.length : Nat) : Int) - 1)) hG rfl (by decide) rfl (by omega) (by omega) (by omega)) mX9_in kX9_114 dX9_tokenAt_19 (by decide) (Nat.le_of_ble_eq_true rfl) rfl (fun vq_3 cq_2 hq_1 => ?_)
  obtain ⟨rfl, hq_1⟩ := hq_1
  obtain rfl := hq_1.symm
  refine A_beq (q := 25) (t := 34) X dX9_tokenAt_22 rfl rfl (fun hb22 => ?_) (fun hb22 => ?_)
  · refine A_iconst (q := 35) X dX9_tokenAt_34 rfl ?_
    have e9 : fTok p (tm, x, hs, s0, s1, o, sd) = (-1, (tm, x, hs, s0, s1, o, sd)) := by unfold fTok tokA; dsimp only; rw [if_neg (by omega)]
    exact A_ireturn X dX9_tokenAt_35 ⟨by rw [e9], by rw [e9]; exact ⟨hN, ⟨_, _, _, lk_eq, htw⟩, (hX.keep (lk_ne (by omega) rfl)), (hT.keep (lk_ne (by omega) rfl)), hgd, (hR8.keep (lk_ne (by omega) rfl)), (hR9.keep (lk_ne (by omega) rfl)), (hO.keep (lk_ne (by omega) rfl)), (hH.keep (lk_ne (by omega) rfl)), (hV.keep (lk_ne (by omega) rfl) (lk_ne (by omega) rfl)), (hB.keep (lk_ne (by omega) rfl) (lk_ne (by omega) rfl)), (hSc.keep (lk_ne (by omega) rfl) (lk_ne (by omega) rfl) (lk_ne (by omega) rfl)), (hWd.keep (lk_ne (by omega) rfl) (lk_ne (by omega) rfl) (lk_ne (by omega) rfl))⟩, (fun k n0 => (lk_ne (by omega) rfl))⟩
  · refine A_aload_n (q := 26) X dX9_tokenAt_25 rfl rfl ?_
    refine A_getf (q := 29) X fX9_13 dX9_tokenAt_26 (by omega) lk_eq rfl rfl ?_
    refine A_iload_n (q := 30) X dX9_tokenAt_29 rfl rfl ?_
    refine A_iald (q := 31) (h := 57) ((p).toNat) X dX9_tokenAt_30 (by omega) (lk_ne (by omega) h57) (by omega) (by omega) (by decide) rfl ?_
    rw [hF p.toNat (by omega)]
    refine A_goto (q := 35) X dX9_tokenAt_31 rfl ?_
    have e9 : fTok p (tm, x, hs, s0, s1, o, sd) = (tm.getD p.toNat 0, (tm, x, hs, s0, s1, o, sd)) := by unfold fTok tokA; dsimp only; rw [if_pos (by omega)]
    exact A_ireturn X dX9_tokenAt_35 ⟨by rw [e9], by rw [e9]; exact ⟨hN, ⟨_, _, _, lk_eq, htw⟩, (hX.keep (lk_ne (by omega) rfl)), (hT.keep (lk_ne (by omega) rfl)), hgd, (hR8.keep (lk_ne (by omega) rfl)), (hR9.keep (lk_ne (by omega) rfl)), (hO.keep (lk_ne (by omega) rfl)), (hH.keep (lk_ne (by omega) rfl)), (hV.keep (lk_ne (by omega) rfl) (lk_ne (by omega) rfl)), (hB.keep (lk_ne (by omega) rfl) (lk_ne (by omega) rfl)), (hSc.keep (lk_ne (by omega) rfl) (lk_ne (by omega) rfl) (lk_ne (by omega) rfl)), (hWd.keep (lk_ne (by omega) rfl) (lk_ne (by omega) rfl) (lk_ne (by omega) rfl))⟩, (fun k n0 => (lk_ne (by omega) rfl))⟩
set_option maxRecDepth 100000 in
set_option maxHeartbeats 4000000 in
theorem c_X9_clearText {l : Launch} {G : Gm} {c : HP} {tm x : List Int} {hs : List (List Int)} {s0 s1 : List Int} {o : List (Int × Int)} {sd : Int64} (hG : injG G)  (hW : WM G c (tm, x, hs, s0, s1, o, sd)) : AMet l G yX9_clearText cX9_clearText 2 ((some .int)) (rmR 0 0) [.ref (G.1 55)] c (Qi (fun v c' => v = zI (fClear (tm, x, hs, s0, s1, o, sd)).1 ∧ WM G c' (fClear (tm, x, hs, s0, s1, o, sd)).2 ∧ (∀ k, k < 55 → c' k = c k))) := by
  refine AMet.of (vl := [some (.ref (G.1 55))]) (by decide) hG (Nat.le_of_ble_eq_true rfl) rfl ?_
  intro K X
  have X : Fx l G K cX9_clearText 2 RX9 ((some .int)) (rmR 0 0) := X
  obtain ⟨hN, ⟨th, tw, pk, h55, htw⟩, hX, hT, hgd, hR8, hR9, hO, hH, hV, hB, hSc, hWd⟩ := hW
  dsimp only at h55 hX hT hgd hH hV hB
  have hl0 := hT.len
  have hxl := hX.1
  have hhl := hH.1
  have hol := hB.1
  refine A_aload_n (q := 1) X dX9_clearText_0 rfl rfl ?_
  refine A_iconst (q := 2) X dX9_clearText_1 rfl ?_
  refine A_putf (q := 5) X pX9_59 dX9_clearText_2 (by omega) h55 (Nat.le_of_ble_eq_true rfl) rfl rfl rfl ?_
  refine A_aload_n (q := 6) X dX9_clearText_5 rfl rfl ?_
  refine A_getf (q := 9) X fX9_118 dX9_clearText_6 (by omega) lk_eq rfl rfl ?_
  refine A_istore_n (q := 10) X dX9_clearText_9 (by decide) (okP_s rfl rfl) rfl ?_
  refine A_aload_n (q := 11) X dX9_clearText_10 rfl rfl ?_
  refine A_iconst (q := 12) X dX9_clearText_11 rfl ?_
  refine A_putf (q := 15) X pX9_118 dX9_clearText_12 (by omega) lk_eq (Nat.le_of_ble_eq_true rfl) rfl rfl rfl ?_
  refine A_iload_n (q := 16) X dX9_clearText_15 rfl rfl ?_
  have hX2 : ∀ c2 : HP, c2 56 = c 56 → Tx9 G c2 [] := fun c2 e => ⟨by decide, fun t ht => absurd ht (List.not_mem_nil), _, e.trans hX.2.2.choose_spec.1, fun k hk => absurd hk (Nat.not_lt_zero _)⟩
  have e9 : fClear (tm, x, hs, s0, s1, o, sd) = (((x.length : Nat) : Int), (tm, [], hs, s0, s1, o, sd)) := by rfl
  exact A_ireturn X dX9_clearText_16 ⟨rfl, by rw [e9]; exact ⟨hN, ⟨_, _, _, lk_eq, htw⟩, (hX2 _ (lk_ne (by omega) (lk_ne (by omega) rfl))), (hT.keep (lk_ne (by omega) (lk_ne (by omega) rfl))), hgd, (hR8.keep (lk_ne (by omega) (lk_ne (by omega) rfl))), (hR9.keep (lk_ne (by omega) (lk_ne (by omega) rfl))), (hO.keep (lk_ne (by omega) (lk_ne (by omega) rfl))), (hH.keep (lk_ne (by omega) (lk_ne (by omega) rfl))), (hV.keep (lk_ne (by omega) (lk_ne (by omega) rfl)) (lk_ne (by omega) (lk_ne (by omega) rfl))), (hB.keep (lk_ne (by omega) (lk_ne (by omega) rfl)) (lk_ne (by omega) (lk_ne (by omega) rfl))), (hSc.keep (lk_ne (by omega) (lk_ne (by omega) rfl)) (lk_ne (by omega) (lk_ne (by omega) rfl)) (lk_ne (by omega) (lk_ne (by omega) rfl))), (hWd.keep (lk_ne (by omega) (lk_ne (by omega) rfl)) (lk_ne (by omega) (lk_ne (by omega) rfl)) (lk_ne (by omega) (lk_ne (by omega) rfl)))⟩, (fun k n0 => (lk_ne (by omega) (lk_ne (by omega) rfl)))⟩
set_option maxRecDepth 100000 in
set_option maxHeartbeats 4000000 in
theorem c_X9_redexCount {l : Launch} {G : Gm} {c : HP} {tm x : List Int} {hs : List (List Int)} {s0 s1 : List Int} {o : List (Int × Int)} {sd : Int64} (hG : injG G)  (hW : WM G c (tm, x, hs, s0, s1, o, sd)) : AMet l G yX9_redexCount cX9_redexCount 1 ((some .int)) (rmR 2 43) [.ref (G.1 55)] c (Qi (fun v c' => v = zI (fRedex (tm, x, hs, s0, s1, o, sd)).1 ∧ WM G c' (fRedex (tm, x, hs, s0, s1, o, sd)).2 ∧ (∀ k, k < 55 → c' k = c k))) := by
  refine AMet.of (vl := [some (.ref (G.1 55))]) (by decide) hG (Nat.le_of_ble_eq_true rfl) rfl ?_
  intro K X
  have X : Fx l G K cX9_redexCount 1 RX9 ((some .int)) (rmR 2 43) := X
  obtain ⟨hN, ⟨th, tw, pk, h55, htw⟩, hX, hT, hgd, hR8, hR9, hO, hH, hV, hB, hSc, hWd⟩ := hW
  dsimp only at h55 hX hT hgd hH hV hB
  have hl0 := hT.len
  have hxl := hX.1
  have hhl := hH.1
  have hol := hB.1
  refine A_aload_n (q := 1) X dX9_redexCount_0 rfl rfl ?_
  refine A_iconst (q := 2) X dX9_redexCount_1 rfl ?_
  refine A_putf (q := 5) X pX9_59 dX9_redexCount_2 (by omega) h55 (Nat.le_of_ble_eq_true rfl) rfl rfl rfl ?_
  refine A_aload_n (q := 6) X dX9_redexCount_5 rfl rfl ?_
  refine A_getf (q := 9) X fX9_13 dX9_redexCount_6 (by omega) lk_eq rfl rfl ?_
  refine A_S1i (q := 12) X (c_X9_redexes hG (hT.keep (lk_ne (by omega) rfl)) hgd) mX9_redexes kX9_108 dX9_redexCount_9 (by decide) (Nat.le_of_ble_eq_true rfl) rfl (fun vq_3 cq_2 hq_1 => ?_)
  obtain ⟨rfl, hq_1⟩ := hq_1
  obtain rfl := hq_1.symm
  have e9 : fRedex (tm, x, hs, s0, s1, o, sd) = (((cntP (rx tm) tm.length : Nat) : Int), (tm, x, hs, s0, s1, o, sd)) := by rfl
  exact A_ireturn X dX9_redexCount_12 ⟨rfl, by rw [e9]; exact ⟨hN, ⟨_, _, _, lk_eq, htw⟩, (hX.keep (lk_ne (by omega) rfl)), (hT.keep (lk_ne (by omega) rfl)), hgd, (hR8.keep (lk_ne (by omega) rfl)), (hR9.keep (lk_ne (by omega) rfl)), (hO.keep (lk_ne (by omega) rfl)), (hH.keep (lk_ne (by omega) rfl)), (hV.keep (lk_ne (by omega) rfl) (lk_ne (by omega) rfl)), (hB.keep (lk_ne (by omega) rfl) (lk_ne (by omega) rfl)), (hSc.keep (lk_ne (by omega) rfl) (lk_ne (by omega) rfl) (lk_ne (by omega) rfl)), (hWd.keep (lk_ne (by omega) rfl) (lk_ne (by omega) rfl) (lk_ne (by omega) rfl))⟩, (fun k n0 => (lk_ne (by omega) rfl))⟩
set_option maxRecDepth 100000 in
set_option maxHeartbeats 4000000 in
theorem c_X9_chosenRedex {l : Launch} {G : Gm} {c : HP} {tm x : List Int} {hs : List (List Int)} {s0 s1 : List Int} {o : List (Int × Int)} {sd : Int64} {s : Int} (hG : injG G) (hsr : rg s) (hW : WM G c (tm, x, hs, s0, s1, o, sd)) : AMet l G yX9_chosenRedex cX9_chosenRedex 2 ((some .int)) (rmR 4 92) [.ref (G.1 55), .int (zI s)] c (Qi (fun v c' => v = zI (fChosen s (tm, x, hs, s0, s1, o, sd)).1 ∧ WM G c' (fChosen s (tm, x, hs, s0, s1, o, sd)).2 ∧ (∀ k, k < 55 → c' k = c k))) := by
  refine AMet.of (vl := [some (.ref (G.1 55)), some (.int (zI s))]) (by decide) hG (Nat.le_of_ble_eq_true rfl) rfl ?_
  intro K X
  have X : Fx l G K cX9_chosenRedex 2 RX9 ((some .int)) (rmR 4 92) := X
  obtain ⟨hN, ⟨th, tw, pk, h55, htw⟩, hX, hT, hgd, hR8, hR9, hO, hH, hV, hB, hSc, hWd⟩ := hW
  dsimp only at h55 hX hT hgd hH hV hB
  have hl0 := hT.len
  have hxl := hX.1
  have hhl := hH.1
  have hol := hB.1
  refine A_aload_n (q := 1) X dX9_chosenRedex_0 rfl rfl ?_
  refine A_iconst (q := 2) X dX9_chosenRedex_1 rfl ?_
  refine A_putf (q := 5) X pX9_59 dX9_chosenRedex_2 (by omega) h55 (Nat.le_of_ble_eq_true rfl) rfl rfl rfl ?_
  refine A_iload_n (q := 6) X dX9_chosenRedex_5 rfl rfl ?_
  refine A_i2l (q := 7) X dX9_chosenRedex_6 rfl ?_
  refine A_lconst (q := 8) (v := 0) X dX9_chosenRedex_7 rfl rfl ?_
  refine A_ldc2 (q := 11) X dX9_chosenRedex_8 nX9_135 rfl ?_
  refine A_S3i (q := 14) X (c_inZ (a := s) (b := 0) (d := 3) hG rfl (by decide) (by decide) (by omega) (by omega) (by omega)) mX9_in kX9_114 dX9_chosenRedex_11 (by decide) (Nat.le_of_ble_eq_true rfl) rfl (fun vq_3 cq_2 hq_1 => ?_)
  obtain ⟨rfl, hq_1⟩ := hq_1
  obtain rfl := hq_1.symm
  refine A_beq (q := 17) (t := 28) X dX9_chosenRedex_14 rfl rfl (fun hb14 => ?_) (fun hb14 => ?_)
  · refine A_bipush (q := 30) X dX9_chosenRedex_28 (by decide) rfl ?_
    have e9 : fChosen s (tm, x, hs, s0, s1, o, sd) = (-2, (tm, x, hs, s0, s1, o, sd)) := by unfold fChosen; rw [if_neg (by omega)]
    exact A_ireturn X dX9_chosenRedex_30 ⟨by rw [e9], by rw [e9]; exact ⟨hN, ⟨_, _, _, lk_eq, htw⟩, (hX.keep (lk_ne (by omega) rfl)), (hT.keep (lk_ne (by omega) rfl)), hgd, (hR8.keep (lk_ne (by omega) rfl)), (hR9.keep (lk_ne (by omega) rfl)), (hO.keep (lk_ne (by omega) rfl)), (hH.keep (lk_ne (by omega) rfl)), (hV.keep (lk_ne (by omega) rfl) (lk_ne (by omega) rfl)), (hB.keep (lk_ne (by omega) rfl) (lk_ne (by omega) rfl)), (hSc.keep (lk_ne (by omega) rfl) (lk_ne (by omega) rfl) (lk_ne (by omega) rfl)), (hWd.keep (lk_ne (by omega) rfl) (lk_ne (by omega) rfl) (lk_ne (by omega) rfl))⟩, (fun k n0 => (lk_ne (by omega) rfl))⟩
  · refine A_aload_n (q := 18) X dX9_chosenRedex_17 rfl rfl ?_
    refine A_getf (q := 21) X fX9_13 dX9_chosenRedex_18 (by omega) lk_eq rfl rfl ?_
    refine A_iload_n (q := 22) X dX9_chosenRedex_21 rfl rfl ?_
    refine A_S2i (q := 25) X (c_X9_choose hG (hT.keep (lk_ne (by omega) rfl)) hgd (by omega)) mX9_choose kX9_94 dX9_chosenRedex_22 (by decide) (Nat.le_of_ble_eq_true rfl) rfl (fun vq_6 cq_5 hq_4 => ?_)
    obtain ⟨rfl, hq_4⟩ := hq_4
    obtain rfl := hq_4.symm
    refine A_goto (q := 30) X dX9_chosenRedex_25 rfl ?_
    have e9 : fChosen s (tm, x, hs, s0, s1, o, sd) = (chz tm s, (tm, x, hs, s0, s1, o, sd)) := by unfold fChosen; rw [if_pos (by omega)]
    exact A_ireturn X dX9_chosenRedex_30 ⟨by rw [e9], by rw [e9]; exact ⟨hN, ⟨_, _, _, lk_eq, htw⟩, (hX.keep (lk_ne (by omega) rfl)), (hT.keep (lk_ne (by omega) rfl)), hgd, (hR8.keep (lk_ne (by omega) rfl)), (hR9.keep (lk_ne (by omega) rfl)), (hO.keep (lk_ne (by omega) rfl)), (hH.keep (lk_ne (by omega) rfl)), (hV.keep (lk_ne (by omega) rfl) (lk_ne (by omega) rfl)), (hB.keep (lk_ne (by omega) rfl) (lk_ne (by omega) rfl)), (hSc.keep (lk_ne (by omega) rfl) (lk_ne (by omega) rfl) (lk_ne (by omega) rfl)), (hWd.keep (lk_ne (by omega) rfl) (lk_ne (by omega) rfl) (lk_ne (by omega) rfl))⟩, (fun k n0 => (lk_ne (by omega) rfl))⟩
set_option maxRecDepth 100000 in
set_option maxHeartbeats 4000000 in
theorem c_X9_setSeed {l : Launch} {G : Gm} {c : HP} {tm x : List Int} {hs : List (List Int)} {s0 s1 : List Int} {o : List (Int × Int)} {sd : Int64} {sd2 : Int64} (hG : injG G) (hW : WM G c (tm, x, hs, s0, s1, o, sd)) : AMet l G yX9_setSeed cX9_setSeed 5 ((some .long)) (rmR 0 0) [.ref (G.1 55), .long (sd2)] c (Ql (fun v c' => v = sd ∧ WM G c' (tm, x, hs, s0, s1, o, sd2) ∧ (∀ k, k < 55 → c' k = c k))) := by
  refine AMet.of (vl := [some (.ref (G.1 55)), some (.long (sd2)), none]) (by decide) hG (Nat.le_of_ble_eq_true rfl) rfl ?_
  intro K X
  have X : Fx l G K cX9_setSeed 5 RX9 ((some .long)) (rmR 0 0) := X
  obtain ⟨hN, ⟨th, tw, pk, h55, htw⟩, hX, hT, hgd, hR8, hR9, hO, hH, hV, hB, hSc, hWd⟩ := hW
  dsimp only at h55 hX hT hgd hH hV hB
  have hl0 := hT.len
  have hxl := hX.1
  have hhl := hH.1
  have hol := hB.1
  refine A_aload_n (q := 1) X dX9_setSeed_0 rfl rfl ?_
  refine A_iconst (q := 2) X dX9_setSeed_1 rfl ?_
  refine A_putf (q := 5) X pX9_59 dX9_setSeed_2 (by omega) h55 (Nat.le_of_ble_eq_true rfl) rfl rfl rfl ?_
  refine A_aload_n (q := 6) X dX9_setSeed_5 rfl rfl ?_
  refine A_getf (q := 9) X fX9_208 dX9_setSeed_6 (by omega) lk_eq rfl rfl ?_
  refine A_lstore_n (q := 10) X dX9_setSeed_9 (by decide) (okP_n rfl) rfl ?_
  refine A_aload_n (q := 11) X dX9_setSeed_10 rfl rfl ?_
  refine A_lload_n (q := 12) X dX9_setSeed_11 rfl rfl ?_
  refine A_putf (q := 15) X pX9_208 dX9_setSeed_12 (by omega) lk_eq (Nat.le_of_ble_eq_true rfl) rfl rfl rfl ?_
  refine A_lload_n (q := 16) X dX9_setSeed_15 rfl rfl ?_
  exact A_lreturn X dX9_setSeed_16 ⟨rfl, ⟨hN, ⟨_, _, _, lk_eq, htw⟩, (hX.keep (lk_ne (by omega) (lk_ne (by omega) rfl))), (hT.keep (lk_ne (by omega) (lk_ne (by omega) rfl))), hgd, (hR8.keep (lk_ne (by omega) (lk_ne (by omega) rfl))), (hR9.keep (lk_ne (by omega) (lk_ne (by omega) rfl))), (hO.keep (lk_ne (by omega) (lk_ne (by omega) rfl))), (hH.keep (lk_ne (by omega) (lk_ne (by omega) rfl))), (hV.keep (lk_ne (by omega) (lk_ne (by omega) rfl)) (lk_ne (by omega) (lk_ne (by omega) rfl))), (hB.keep (lk_ne (by omega) (lk_ne (by omega) rfl)) (lk_ne (by omega) (lk_ne (by omega) rfl))), (hSc.keep (lk_ne (by omega) (lk_ne (by omega) rfl)) (lk_ne (by omega) (lk_ne (by omega) rfl)) (lk_ne (by omega) (lk_ne (by omega) rfl))), (hWd.keep (lk_ne (by omega) (lk_ne (by omega) rfl)) (lk_ne (by omega) (lk_ne (by omega) rfl)) (lk_ne (by omega) (lk_ne (by omega) rfl)))⟩, (fun k n0 => (lk_ne (by omega) (lk_ne (by omega) rfl)))⟩
