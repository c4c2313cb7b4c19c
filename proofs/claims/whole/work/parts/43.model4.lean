/-! THE MODEL, fourth: the result row -/
/-- the row 'out' after w was put into it: it holds w if w fits -/
def Po (G : Gm) (c : HP) (w : List Int) : Prop := (w.length ≤ 200 → Mt G c 60 w) ∧ ∃ u, Mt G c 60 u
theorem Po.keep {G : Gm} {c c' : HP} {w : List Int} (h : Po G c w) (e : c' 60 = c 60) : Po G c' w := ⟨fun q => (h.1 q).keep e, h.2.choose, h.2.choose_spec.keep e⟩
theorem Po.big {G : Gm} {c : HP} {w v : List Int} (h : Po G c w) (hv : ¬ v.length ≤ 200) : Po G c v := ⟨fun q => absurd q hv, h.2⟩
theorem getD_app_last (u : List Int) (t : Int) : (u ++ [t]).getD u.length 0 = t := by
  rw [List.getD_eq_getElem?_getD, List.getElem?_append_right (Nat.le_refl _), Nat.sub_self]; rfl
set_option maxRecDepth 100000 in
set_option maxHeartbeats 4000000 in
theorem c_X9_put {l : Launch} {G : Gm} {c : HP} {w : List Int} {t : Int} {th ts rmb obn tw pk : Int} {sd : Int64} (hG : injG G) (hN : G.2.1 = 72) (h55 : c 55 = ob9 G th ts rmb obn sd tw pk) (hP : Po G c w) (hw : w.length ≤ 200) : AMet l G yX9_put cX9_put 2 ((some .boolean)) (rmR 0 0) [.ref (G.1 55), .int (zI t)] c (Qi (fun v c' => v = zI (if (w ++ [t]).length ≤ 200 then 1 else 0) ∧ Po G c' (w ++ [t]) ∧ (∀ k, k ≠ 60 → c' k = c k))) := by
  refine AMet.of (vl := [some (.ref (G.1 55)), some (.int (zI t))]) (by decide) hG (Nat.le_of_ble_eq_true rfl) rfl ?_
  intro K X
  have X : Fx l G K cX9_put 2 RX9 ((some .boolean)) (rmR 0 0) := X
  obtain ⟨hP1, hP2⟩ := hP
  obtain ⟨hN60, hl0, F, h60, hS, hF⟩ := hP1 hw
  have hal : (w ++ [t]).length = w.length + 1 := by rw [List.length_append]; rfl
  refine A_aload_n (q := 1) X dX9_put_0 rfl rfl ?_
  refine A_getf (q := 4) X fX9_22 dX9_put_1 (by omega) h55 rfl rfl ?_
  refine A_sipush (q := 7) X dX9_put_4 (by decide) rfl ?_
  refine A_iald (q := 8) (h := 60) 200 X dX9_put_7 (by omega) h60 (by omega) (by omega) (by decide) rfl ?_
  rw [hS]
  refine A_sipush (q := 11) X dX9_put_8 (by decide) rfl ?_
  refine A_icmp_ne (q := 14) (t := 16) X dX9_put_11 (by omega) (by decide) rfl rfl (fun hb11 => ?_) (fun hb11 => ?_)
  · refine A_aload_n (q := 17) X dX9_put_16 rfl rfl ?_
    refine A_getf (q := 20) X fX9_22 dX9_put_17 (by omega) h55 rfl rfl ?_
    refine A_aload_n (q := 21) X dX9_put_20 rfl rfl ?_
    refine A_getf (q := 24) X fX9_22 dX9_put_21 (by omega) h55 rfl rfl ?_
    refine A_sipush (q := 27) X dX9_put_24 (by decide) rfl ?_
    refine A_iald (q := 28) (h := 60) 200 X dX9_put_27 (by omega) h60 (by omega) (by omega) (by decide) rfl ?_
    rw [hS]
    refine A_iload_n (q := 29) X dX9_put_28 rfl rfl ?_
    refine A_iast (q := 30) (h := 60) (w.length) X dX9_put_29 (by omega) h60 (by omega) (by omega) (by decide) rfl ?_
    refine A_aload_n (q := 31) X dX9_put_30 rfl rfl ?_
    refine A_getf (q := 34) X fX9_22 dX9_put_31 (by omega) (lk_ne (by omega) h55) rfl rfl ?_
    refine A_sipush (q := 37) X dX9_put_34 (by decide) rfl ?_
    refine A_dup2 (q := 38) X dX9_put_37 rfl rfl rfl ?_
    refine A_iald (q := 39) (h := 60) 200 X dX9_put_38 (by omega) lk_eq (by omega) (by omega) (by decide) rfl ?_
    rw [show va_up F w.length t 200 = ((w.length : Nat) : Int) from lk_ne (by omega) hS]
    refine A_iconst (q := 40) X dX9_put_39 rfl ?_
    refine A_iadd (q := 41) X dX9_put_40 rfl ?_
    refine A_iast (q := 42) (h := 60) 200 X dX9_put_41 (by omega) lk_eq (by omega) (by omega) (by decide) rfl ?_
    refine A_iconst (q := 43) X dX9_put_42 rfl ?_
    have hm : ∀ c2 : HP, c2 60 = aI G 201 (va_up (va_up F w.length t) 200 (((w.length : Nat) : Int) + 1)) → Mt G c2 60 (w ++ [t]) := fun c2 h2 => ⟨by omega, by omega, va_up (va_up F w.length t) 200 (((w.length : Nat) : Int) + 1), h2, by refine lk_eq.trans ?_; omega, fun k hk => lk_ne (by omega) (by by_cases e : k = w.length; (subst e; rw [getD_app_last]; exact lk_eq); exact lk_ne e ((hF k (by omega)).trans (getD_app_lt (by omega)).symm))⟩
    exact A_zreturn X dX9_put_43 (by decide) ⟨zb1 (by omega), ⟨fun _ => hm _ lk_eq, _, hm _ lk_eq⟩, fun k n0 => lk_ne n0 (lk_ne n0 rfl)⟩
  · refine A_iconst (q := 15) X dX9_put_14 rfl ?_
    exact A_zreturn X dX9_put_15 (by decide) ⟨zb0 (by omega), ⟨fun q => absurd q (by omega), hP2⟩, fun _ _ => rfl⟩
set_option maxRecDepth 100000 in
set_option maxHeartbeats 4000000 in
theorem lp_X9_putShifted {l : Launch} {G : Gm} {K : Cx} {c0 : HP} {a fm c1 by_ : Nat} {x w : List Int} {F D : Nat → Int} {th ts rmb obn tw pk : Int} {sd : Int64} (X : Fx l G K cX9_putShifted 8 RX9 ((some .boolean)) (rmR 1 21)) (hG : injG G) (hN : G.2.1 = 72) (h055 : c0 55 = ob9 G th ts rmb obn sd tw pk) (ha0 : a < G.2.1) (an : a ≠ 60) (haF : c0 a = aI G 201 F) (h066 : c0 66 = aI G 201 D) (hx1 : One x c1) (hx0 : ∀ t ∈ x, 0 ≤ t ∧ t ≤ 1001) (hto : fm + x.length ≤ 200) (hxF : ∀ i, i < x.length → F (fm + i) = x.getD i 0) (hD : ∀ j, j < x.length → D (fm + j) = ((dp x j : Nat) : Int)) (hby : by_ ≤ 1000) : ∀ (n : Nat) (i : Nat) (c : HP), x.length - i < n → i ≤ x.length → Po G c (w ++ shf (x.take i) [0] by_) → (∀ k, k ≠ 60 → c k = c0 k) → AW G K (Qi (fun v c' => v = zI (if (w ++ shf x [0] by_).length ≤ 200 then 1 else 0) ∧ Po G c' (w ++ shf x [0] by_) ∧ (∀ k, k ≠ 60 → c' k = c0 k))) 6 (mkL [some (.ref (G.1 55)), some (.ref (G.1 a)), some (.int (zI ((fm : Nat) : Int))), some (.int (zI (((fm + x.length) : Nat) : Int))), some (.int (zI ((by_ : Nat) : Int))), some (.int (zI (if (w ++ shf (x.take i) [0] by_).length ≤ 200 then 1 else 0 : Int))), some (.int (zI (((fm + i) : Nat) : Int))), none]) [] c := by
  intro n
  induction n with
  | zero => intro i c hmz; exact absurd hmz (Nat.not_lt_zero _)
  | succ n ih =>
    intro i c hmz hi hPo hf0
    have h55 := (hf0 55 (by decide)).trans h055
    have h66 := (hf0 66 (by decide)).trans h066
    have ha := (hf0 a an).trans haF
    refine A_iload (q := 8) X dX9_putShifted_6 rfl rfl ?_
    refine A_iload_n (q := 9) X dX9_putShifted_8 rfl rfl ?_
    refine A_icmp_ge (q := 12) (t := 79) X dX9_putShifted_9 (by omega) (by omega) rfl rfl (fun hb9 => ?_) (fun hb9 => ?_)
    · refine A_iload (q := 81) X dX9_putShifted_79 rfl rfl ?_
      have ei : i = x.length := by omega
      subst ei
      rw [List.take_length] at hPo
      rw [List.take_length]
      exact A_zreturn X dX9_putShifted_81 bb_01 ⟨rfl, hPo, hf0⟩
    · refine A_iload (q := 14) X dX9_putShifted_12 rfl rfl ?_
      refine A_beq (q := 17) (t := 79) X dX9_putShifted_14 rfl rfl (fun hb14 => ?_) (fun hb14 => ?_)
      · refine A_iload (q := 81) X dX9_putShifted_79 rfl rfl ?_
        have hbig : ¬ (w ++ shf x [0] by_).length ≤ 200 := fun q => hb14 (by rw [List.length_append, shf_len] at q ⊢; rw [List.length_take]; omega)
        exact A_zreturn X dX9_putShifted_81 bb_01 ⟨by rw [if_neg hb14, if_neg hbig], hPo.big hbig, hf0⟩
      · have hil : i < x.length := by omega
        obtain ⟨ds, hs1⟩ := hx1.top hil
        have hsh := shf_take (k := by_) hx1 hil
        have htb := hx0 _ (mem_getD hil)
        have hFt := hxF i hil
        have hDi := hD i hil
        have hdpl := dp_le x i
        generalize x.getD i 0 = t at hsh htb hFt
        unfold shT at hsh
        refine A_aload_n (q := 18) X dX9_putShifted_17 rfl rfl ?_
        refine A_iload (q := 20) X dX9_putShifted_18 rfl rfl ?_
        refine A_iald (q := 21) (h := a) ((fm + i)) X dX9_putShifted_20 ha0 ha (by omega) (by omega) (by decide) rfl ?_
        rw [hFt]
        refine A_S1i (q := 24) X (c_X9_isVariable hG (by omega)) mX9_isVariable kX9_68 dX9_putShifted_21 (by decide) (Nat.le_of_ble_eq_true rfl) rfl (fun vq_3 cq_2 hq_1 => ?_)
        obtain ⟨rfl, hq_1⟩ := hq_1
        obtain rfl := hq_1.symm
        refine A_beq (q := 27) (t := 45) X dX9_putShifted_24 rfl rfl (fun hb24 => ?_) (fun hb24 => ?_)
        · refine A_iconst (q := 46) X dX9_putShifted_45 rfl ?_
          refine A_istore (q := 48) X dX9_putShifted_46 (by decide) (okP_s rfl rfl) rfl ?_
          refine A_aload_n (q := 49) X dX9_putShifted_48 rfl rfl ?_
          refine A_iload (q := 51) X dX9_putShifted_49 rfl rfl ?_
          refine A_if_eq (q := 54) (t := 64) X dX9_putShifted_51 (by decide) rfl rfl (fun hb51 => ?_) (fun hb51 => ?_)
          · refine A_aload_n (q := 65) X dX9_putShifted_64 rfl rfl ?_
            refine A_iload (q := 67) X dX9_putShifted_65 rfl rfl ?_
            refine A_iald (q := 68) (h := a) ((fm + i)) X dX9_putShifted_67 ha0 ha (by omega) (by omega) (by decide) rfl ?_
            rw [hFt]
            refine A_V1i (q := 71) X (c_X9_put (w := (w ++ shf (x.take i) [0] by_)) (t := t) hG hN h55 hPo (by omega)) mX9_put kX9_83 dX9_putShifted_68 (by omega) h55 rfl (by decide) (Nat.le_of_ble_eq_true rfl) rfl (fun vq_6 cq_5 hq_4 => ?_)
            obtain ⟨rfl, hPo_7, hfp_8⟩ := hq_4
            refine A_istore (q := 73) X dX9_putShifted_71 (by decide) (okP_s rfl rfl) rfl ?_
            refine A_iinc (q := 76) X dX9_putShifted_73 rfl (by decide) (okP_s rfl rfl) rfl ?_
            refine A_goto (q := 6) X dX9_putShifted_76 rfl ?_
            have eW : w ++ shf (x.take (i + 1)) [0] by_ = ((w ++ shf (x.take i) [0] by_) ++ [t]) := by rw [hsh, ← List.append_assoc]; first | rw [if_pos (by omega)] | rw [if_neg (by omega)]
            exact AW.loc (sS rfl (sS rfl (sS rfl (sS rfl (sS rfl (sS (by rw [eW]; rfl) (sZ rfl (by omega) (sN sE)))))))) (ih (i + 1) _ (by omega) (by omega) (by rw [eW]; exact hPo_7) (fun k n0 => ((hfp_8 k (by omega)).trans (hf0 k n0))))
          · exact absurd hb51 (by decide)
        · refine A_aload_n (q := 28) X dX9_putShifted_27 rfl rfl ?_
          refine A_iload (q := 30) X dX9_putShifted_28 rfl rfl ?_
          refine A_iald (q := 31) (h := a) ((fm + i)) X dX9_putShifted_30 ha0 ha (by omega) (by omega) (by decide) rfl ?_
          rw [hFt]
          refine A_aload_n (q := 32) X dX9_putShifted_31 rfl rfl ?_
          refine A_getf (q := 35) X fX9_41 dX9_putShifted_32 (by omega) h55 rfl rfl ?_
          refine A_iload (q := 37) X dX9_putShifted_35 rfl rfl ?_
          refine A_iald (q := 38) (h := 66) ((fm + i)) X dX9_putShifted_37 (by omega) h66 (by omega) (by omega) (by decide) rfl ?_
          rw [hDi]
          refine A_icmp_lt (q := 41) (t := 45) X dX9_putShifted_38 (by omega) (by omega) rfl rfl (fun hb38 => ?_) (fun hb38 => ?_)
          · refine A_iconst (q := 46) X dX9_putShifted_45 rfl ?_
            refine A_istore (q := 48) X dX9_putShifted_46 (by decide) (okP_s rfl rfl) rfl ?_
            refine A_aload_n (q := 49) X dX9_putShifted_48 rfl rfl ?_
            refine A_iload (q := 51) X dX9_putShifted_49 rfl rfl ?_
            refine A_if_eq (q := 54) (t := 64) X dX9_putShifted_51 (by decide) rfl rfl (fun hb51 => ?_) (fun hb51 => ?_)
            · refine A_aload_n (q := 65) X dX9_putShifted_64 rfl rfl ?_
              refine A_iload (q := 67) X dX9_putShifted_65 rfl rfl ?_
              refine A_iald (q := 68) (h := a) ((fm + i)) X dX9_putShifted_67 ha0 ha (by omega) (by omega) (by decide) rfl ?_
              rw [hFt]
              refine A_V1i (q := 71) X (c_X9_put (w := (w ++ shf (x.take i) [0] by_)) (t := t) hG hN h55 hPo (by omega)) mX9_put kX9_83 dX9_putShifted_68 (by omega) h55 rfl (by decide) (Nat.le_of_ble_eq_true rfl) rfl (fun vq_11 cq_10 hq_9 => ?_)
              obtain ⟨rfl, hPo_12, hfp_13⟩ := hq_9
              refine A_istore (q := 73) X dX9_putShifted_71 (by decide) (okP_s rfl rfl) rfl ?_
              refine A_iinc (q := 76) X dX9_putShifted_73 rfl (by decide) (okP_s rfl rfl) rfl ?_
              refine A_goto (q := 6) X dX9_putShifted_76 rfl ?_
              have eW : w ++ shf (x.take (i + 1)) [0] by_ = ((w ++ shf (x.take i) [0] by_) ++ [t]) := by rw [hsh, ← List.append_assoc]; first | rw [if_pos (by omega)] | rw [if_neg (by omega)]
              exact AW.loc (sS rfl (sS rfl (sS rfl (sS rfl (sS rfl (sS (by rw [eW]; rfl) (sZ rfl (by omega) (sN sE)))))))) (ih (i + 1) _ (by omega) (by omega) (by rw [eW]; exact hPo_12) (fun k n0 => ((hfp_13 k (by omega)).trans (hf0 k n0))))
            · exact absurd hb51 (by decide)
          · refine A_iconst (q := 42) X dX9_putShifted_41 rfl ?_
            refine A_goto (q := 46) X dX9_putShifted_42 rfl ?_
            refine A_istore (q := 48) X dX9_putShifted_46 (by decide) (okP_s rfl rfl) rfl ?_
            refine A_aload_n (q := 49) X dX9_putShifted_48 rfl rfl ?_
            refine A_iload (q := 51) X dX9_putShifted_49 rfl rfl ?_
            refine A_if_eq (q := 54) (t := 64) X dX9_putShifted_51 (by decide) rfl rfl (fun hb51 => ?_) (fun hb51 => ?_)
            · exact absurd hb51 (by decide)
            · refine A_aload_n (q := 55) X dX9_putShifted_54 rfl rfl ?_
              refine A_iload (q := 57) X dX9_putShifted_55 rfl rfl ?_
              refine A_iald (q := 58) (h := a) ((fm + i)) X dX9_putShifted_57 ha0 ha (by omega) (by omega) (by decide) rfl ?_
              rw [hFt]
              refine A_iload (q := 60) X dX9_putShifted_58 rfl rfl ?_
              refine A_iadd (q := 61) X dX9_putShifted_60 rfl ?_
              refine A_goto (q := 68) X dX9_putShifted_61 rfl ?_
              refine A_V1i (q := 71) X (c_X9_put (w := (w ++ shf (x.take i) [0] by_)) (t := (t + ((by_ : Nat) : Int))) hG hN h55 hPo (by omega)) mX9_put kX9_83 dX9_putShifted_68 (by omega) h55 rfl (by decide) (Nat.le_of_ble_eq_true rfl) rfl (fun vq_16 cq_15 hq_14 => ?_)
              obtain ⟨rfl, hPo_17, hfp_18⟩ := hq_14
              refine A_istore (q := 73) X dX9_putShifted_71 (by decide) (okP_s rfl rfl) rfl ?_
              refine A_iinc (q := 76) X dX9_putShifted_73 rfl (by decide) (okP_s rfl rfl) rfl ?_
              refine A_goto (q := 6) X dX9_putShifted_76 rfl ?_
              have eW : w ++ shf (x.take (i + 1)) [0] by_ = ((w ++ shf (x.take i) [0] by_) ++ [(t + ((by_ : Nat) : Int))]) := by rw [hsh, ← List.append_assoc]; first | rw [if_pos (by omega)] | rw [if_neg (by omega)]
              exact AW.loc (sS rfl (sS rfl (sS rfl (sS rfl (sS rfl (sS (by rw [eW]; rfl) (sZ rfl (by omega) (sN sE)))))))) (ih (i + 1) _ (by omega) (by omega) (by rw [eW]; exact hPo_17) (fun k n0 => ((hfp_18 k (by omega)).trans (hf0 k n0))))
set_option maxRecDepth 100000 in
set_option maxHeartbeats 4000000 in
theorem c_X9_putShifted {l : Launch} {G : Gm} {c : HP} {a fm c1 by_ : Nat} {x w : List Int} {F D : Nat → Int} {th ts rmb obn tw pk : Int} {sd : Int64} (hG : injG G) (hN : G.2.1 = 72) (h55 : c 55 = ob9 G th ts rmb obn sd tw pk) (ha0 : a < G.2.1) (an : a ≠ 60) (ha : c a = aI G 201 F) (h66 : c 66 = aI G 201 D) (hx1 : One x c1) (hx0 : ∀ t ∈ x, 0 ≤ t ∧ t ≤ 1001) (hto : fm + x.length ≤ 200) (hxF : ∀ i, i < x.length → F (fm + i) = x.getD i 0) (hD : ∀ j, j < x.length → D (fm + j) = ((dp x j : Nat) : Int)) (hby : by_ ≤ 1000) (hP : Po G c w) (hw : w.length ≤ 200) : AMet l G yX9_putShifted cX9_putShifted 8 ((some .boolean)) (rmR 1 21) [.ref (G.1 55), .ref (G.1 a), .int (zI ((fm : Nat) : Int)), .int (zI (((fm + x.length) : Nat) : Int)), .int (zI ((by_ : Nat) : Int))] c (Qi (fun v c' => v = zI (if (w ++ shf x [0] by_).length ≤ 200 then 1 else 0) ∧ Po G c' (w ++ shf x [0] by_) ∧ (∀ k, k ≠ 60 → c' k = c k))) := by
  refine AMet.of (vl := [some (.ref (G.1 55)), some (.ref (G.1 a)), some (.int (zI ((fm : Nat) : Int))), some (.int (zI (((fm + x.length) : Nat) : Int))), some (.int (zI ((by_ : Nat) : Int)))]) (by decide) hG (Nat.le_of_ble_eq_true rfl) rfl ?_
  intro K X
  have X : Fx l G K cX9_putShifted 8 RX9 ((some .boolean)) (rmR 1 21) := X
  refine A_iconst (q := 1) X dX9_putShifted_0 rfl ?_
  refine A_istore (q := 3) X dX9_putShifted_1 (by decide) (okP_s rfl rfl) rfl ?_
  refine A_iload_n (q := 4) X dX9_putShifted_3 rfl rfl ?_
  refine A_istore (q := 6) X dX9_putShifted_4 (by decide) (okP_s rfl rfl) rfl ?_
  have e0 : w ++ shf (x.take 0) [0] by_ = w := List.append_nil w
  exact AW.loc (sS rfl (sS rfl (sS rfl (sS rfl (sS rfl (sS (congrArg (fun z => some (Value.int z)) (show zI 1 = zI (if (w ++ shf (x.take 0) [0] by_).length ≤ 200 then 1 else 0) from zb1 (by rw [e0]; exact hw))) (sZ rfl rfl (sN sE)))))))) (lp_X9_putShifted X hG hN h55 ha0 an ha h66 hx1 hx0 hto hxF hD hby _ 0 c (Nat.lt_succ_self _) (Nat.zero_le _) (by rw [e0]; exact hP) (fun _ _ => rfl))
