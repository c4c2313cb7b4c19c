/-! REDUCER: contraction -/
theorem Rs_add {T : List Int × Int} {x : List Int} (t : Int) (h : Rs T x) (hl : T.1.length ≤ 200) : Rs (tAdd T t) (x ++ [t]) := by
  unfold tAdd
  rcases h with ⟨e, rfl⟩ | ⟨e, q⟩
  · split
    · exact Or.inl ⟨e, rfl⟩
    · exact Or.inr ⟨rfl, by rw [List.length_append, List.length_singleton]; omega⟩
  · split
    · exact Or.inr ⟨e, by rw [List.length_append]; omega⟩
    · exact Or.inr ⟨rfl, by rw [List.length_append]; omega⟩
theorem Rs_range {T : List Int × Int} {x l : List Int} {i j : Nat} (h : Rs T x) (hi : i ≤ j) (hj : j ≤ l.length) : Rs (tRange T l i j) (x ++ (l.drop i).take (j - i)) := by
  have el : ((l.drop i).take (j - i)).length = j - i := by rw [List.length_take, List.length_drop]; omega
  unfold tRange
  rcases h with ⟨e, rfl⟩ | ⟨e, q⟩
  · split
    · exact Or.inl ⟨e, rfl⟩
    · exact Or.inr ⟨rfl, by rw [List.length_append, el]; omega⟩
  · split
    · exact Or.inr ⟨e, by rw [List.length_append]; omega⟩
    · exact Or.inr ⟨rfl, by rw [List.length_append]; omega⟩
theorem olD_in {m k : Nat} {D : Nat → Int} {p : Int} {l : List Int} (hD : ∀ j, j < m → D j = (dp l j : Nat)) (hp : p = (k : Nat)) (h : k < m) : olD m D p = (dp l k : Nat) := by
  subst hp
  unfold olD
  rw [if_pos (by omega), Int.toNat_natCast, hD k h]
abbrev c14 (G : Gm) (c : HP) : Prop := c 14 = .inr (5, [.ref (G.1 15), .ref (G.1 18), .ref (G.1 21)])
theorem take_all {l : List Int} {i : Nat} (h : l.length ≤ i) : l.take i = l := List.take_of_length_le h
theorem getD_sub {l : List Int} {s i : Nat} (h : i < en l s - s) : (sub_ l s).getD i 0 = l.getD (s + i) 0 := getD_range h
set_option maxRecDepth 100000 in
set_option maxHeartbeats 4000000 in
theorem lp_X5_addShifted {l : Launch} {G : Gm} {K : Cx} {c0 : HP} {t ta o oa ob s k cu : Nat} {E D : Nat → Int} {S : List Int × Int} {u x : List Int} (X : Fx l G K cX5_addShifted 10 RX5 (none) (rmR 1 21)) (hG : injG G) (hN : G.2.1 = 72) (h140 : c14 G c0) (hT0 : Tm G c0 t ta S) (hgd : Gd S.1) (hO0 : Ol G c0 o oa ob S.1.length E D) (hD : ∀ j, j < S.1.length → D j = (dp S.1 j : Nat)) (hu : One u cu) (hsu : s + u.length ≤ S.1.length) (hgu : ∀ i, i < u.length → S.1.getD (s + i) 0 = u.getD i 0) (hdu : ∀ i, i < u.length → dp S.1 (s + i) = dp S.1 s + dp u i) (hk : k ≤ 1000) (x1 : t < 11) (x2 : ta < 11) (x3 : 15 ≤ o ∧ o ≤ 20) (x4 : 15 ≤ oa ∧ oa ≤ 20) (x5 : 15 ≤ ob ∧ ob ≤ 20) : ∀ (n : Nat) (i : Nat) (T : List Int × Int) (c : HP), u.length - i < n → i ≤ u.length → Tm G c 21 22 T → Rs T (x ++ shf (u.take i) [0] k) → (∀ k, k ≠ 21 → k ≠ 22 → c k = c0 k) → AW G K (Qv (fun c' => ∃ T', Tm G c' 21 22 T' ∧ Rs T' (x ++ shf u [0] k) ∧ (∀ k, k ≠ 21 → k ≠ 22 → c' k = c0 k))) 10 (mkL [some (.ref (G.1 14)), some (.ref (G.1 t)), some (.ref (G.1 o)), some (.int (zI ((s : Nat) : Int))), some (.int (zI (((s + u.length) : Nat) : Int))), some (.int (zI ((k : Nat) : Int))), some (.int (zI (((dp S.1 s) : Nat) : Int))), some (.int (zI (((s + i) : Nat) : Int))), none, none]) [] c := by
  intro n
  induction n with
  | zero => intro i T c hmz; exact absurd hmz (Nat.not_lt_zero _)
  | succ n ih =>
    intro i T c hmz hi hR hx hf0
    have h14 := (hf0 14 (by omega) (by omega)).trans h140
    have hT := hT0.keep (hf0 t (by omega) (by omega)) (hf0 ta (by omega) (by omega))
    have hO := hO0.keep (hf0 o (by omega) (by omega)) (hf0 oa (by omega) (by omega)) (hf0 ob (by omega) (by omega))
    have hlen := hT.len
    have hds := dp_le S.1 s
    refine A_iload (q := 12) X dX5_addShifted_10 rfl rfl ?_
    refine A_iload (q := 14) X dX5_addShifted_12 rfl rfl ?_
    refine A_icmp_ge (q := 17) (t := 92) X dX5_addShifted_14 (by omega) (by omega) rfl rfl (fun hb14 => ?_) (fun hb14 => ?_)
    · exact A_return X dX5_addShifted_92 ⟨T, hR, by rw [take_all (by omega)] at hx; exact hx, hf0⟩
    · refine A_aload_n (q := 18) X dX5_addShifted_17 rfl rfl ?_
      refine A_getf (q := 21) X fX5_24 dX5_addShifted_18 (by omega) h14 rfl rfl ?_
      refine A_V0i (q := 24) X (c_X6_isTooLarge hG hR) mX6_isTooLarge kX5_88 dX5_addShifted_21 (by omega) hR.cell rfl (by decide) (Nat.le_of_ble_eq_true rfl) rfl (fun vq_3 cq_2 hq_1 => ?_)
      obtain ⟨rfl, hq_1⟩ := hq_1
      obtain rfl := hq_1.symm
      have hb01 := hR.b01
      refine A_if_ne (q := 27) (t := 92) X dX5_addShifted_24 (by omega) rfl rfl (fun hb24 => ?_) (fun hb24 => ?_)
      · exact A_return X dX5_addShifted_92 ⟨T, hR, Rs_big hx (by omega) (by rw [List.length_append, List.length_append, shf_len, shf_len, List.length_take]; omega), hf0⟩
      · refine A_aload_n (q := 28) X dX5_addShifted_27 rfl rfl ?_
        refine A_iload (q := 30) X dX5_addShifted_28 rfl rfl ?_
        refine A_V1i (q := 33) X (c_X6_token hG hT (by omega)) mX6_token kX5_28 dX5_addShifted_30 hT.lt hT.cell rfl (by decide) (Nat.le_of_ble_eq_true rfl) rfl (fun vq_6 cq_5 hq_4 => ?_)
        obtain ⟨rfl, hq_4⟩ := hq_4
        obtain rfl := hq_4.symm
        rw [tokA_in (by omega)]
        have htk := hgd.at (i := s + i) (by omega)
        have hgi := hgu i (by omega)
        have hdi := hdu i (by omega)
        have hdl := dp_le S.1 (s + i)
        refine A_istore (q := 35) X dX5_addShifted_33 (by decide) (okP_s rfl rfl) rfl ?_
        refine A_iload (q := 37) X dX5_addShifted_35 rfl rfl ?_
        refine A_N1i (q := 40) X (c_X8_isVariable hG (by omega)) mX8_isVariable (by decide +kernel) dX5_addShifted_37 (by decide) (Nat.le_of_ble_eq_true rfl) rfl (fun vq_9 cq_8 hq_7 => ?_)
        obtain ⟨rfl, hq_7⟩ := hq_7
        obtain rfl := hq_7.symm
        refine A_beq (q := 43) (t := 61) X dX5_addShifted_40 rfl rfl (fun hb40 => ?_) (fun hb40 => ?_)
        · refine A_iconst (q := 62) X dX5_addShifted_61 rfl ?_
          refine A_istore (q := 64) X dX5_addShifted_62 (by decide) (okP_s rfl rfl) rfl ?_
          refine A_aload_n (q := 65) X dX5_addShifted_64 rfl rfl ?_
          refine A_getf (q := 68) X fX5_24 dX5_addShifted_65 (by omega) h14 rfl rfl ?_
          refine A_iload (q := 70) X dX5_addShifted_68 rfl rfl ?_
          refine A_if_eq (q := 73) (t := 81) X dX5_addShifted_70 (by decide) rfl rfl (fun hb70 => ?_) (fun hb70 => ?_)
          · refine A_iload (q := 83) X dX5_addShifted_81 rfl rfl ?_
            refine A_V1v (q := 86) X (c_X6_add (t := (S.1.getD (s + i) 0)) hG hR) mX6_add kX5_96 dX5_addShifted_83 (by omega) hR.cell rfl (by decide) (Nat.le_of_ble_eq_true rfl) rfl (fun cq_11 hq_10 => ?_)
            obtain ⟨hT_12, hf_13⟩ := hq_10
            refine A_iinc (q := 89) X dX5_addShifted_86 rfl (by decide) (okP_s rfl rfl) rfl ?_
            refine A_goto (q := 10) X dX5_addShifted_89 rfl ?_
            refine AW.loc (sS rfl (sS rfl (sS rfl (sS rfl (sS rfl (sS rfl (sS rfl (sZ rfl (by omega) (sN (sN sE)))))))))) (ih (i + 1) _ _ (by omega) (by omega) hT_12 ?_ (fun k n0 n1 => (hf_13 k n0 n1).trans (hf0 k n0 n1)))
            rw [shf_take hu (by omega), ← List.append_assoc]
            have eS : shT (u.getD i 0) (dp u i) k = S.1.getD (s + i) 0 := by unfold shT; rw [hgi]; first | rw [if_pos (by omega)] | rw [if_neg (by omega)]
            rw [eS]
            exact Rs_add _ hx hR.len
          · exact absurd hb70 (by decide)
        · refine A_iload (q := 45) X dX5_addShifted_43 rfl rfl ?_
          refine A_aload_n (q := 46) X dX5_addShifted_45 rfl rfl ?_
          refine A_iload (q := 48) X dX5_addShifted_46 rfl rfl ?_
          refine A_V1i (q := 51) X (c_X4_depthAt hG hO (by omega)) mX4_depthAt kX5_85 dX5_addShifted_48 hO.lt hO.cell rfl (by decide) (Nat.le_of_ble_eq_true rfl) rfl (fun vq_16 cq_15 hq_14 => ?_)
          obtain ⟨rfl, hq_14⟩ := hq_14
          obtain rfl := hq_14.symm
          rw [olD_in hD rfl (by omega)]
          refine A_iload (q := 53) X dX5_addShifted_51 rfl rfl ?_
          refine A_isub (q := 54) X dX5_addShifted_53 rfl ?_
          refine A_icmp_lt (q := 57) (t := 61) X dX5_addShifted_54 (by omega) (by omega) rfl rfl (fun hb54 => ?_) (fun hb54 => ?_)
          · refine A_iconst (q := 62) X dX5_addShifted_61 rfl ?_
            refine A_istore (q := 64) X dX5_addShifted_62 (by decide) (okP_s rfl rfl) rfl ?_
            refine A_aload_n (q := 65) X dX5_addShifted_64 rfl rfl ?_
            refine A_getf (q := 68) X fX5_24 dX5_addShifted_65 (by omega) h14 rfl rfl ?_
            refine A_iload (q := 70) X dX5_addShifted_68 rfl rfl ?_
            refine A_if_eq (q := 73) (t := 81) X dX5_addShifted_70 (by decide) rfl rfl (fun hb70 => ?_) (fun hb70 => ?_)
            · refine A_iload (q := 83) X dX5_addShifted_81 rfl rfl ?_
              refine A_V1v (q := 86) X (c_X6_add (t := (S.1.getD (s + i) 0)) hG hR) mX6_add kX5_96 dX5_addShifted_83 (by omega) hR.cell rfl (by decide) (Nat.le_of_ble_eq_true rfl) rfl (fun cq_18 hq_17 => ?_)
              obtain ⟨hT_19, hf_20⟩ := hq_17
              refine A_iinc (q := 89) X dX5_addShifted_86 rfl (by decide) (okP_s rfl rfl) rfl ?_
              refine A_goto (q := 10) X dX5_addShifted_89 rfl ?_
              refine AW.loc (sS rfl (sS rfl (sS rfl (sS rfl (sS rfl (sS rfl (sS rfl (sZ rfl (by omega) (sN (sN sE)))))))))) (ih (i + 1) _ _ (by omega) (by omega) hT_19 ?_ (fun k n0 n1 => (hf_20 k n0 n1).trans (hf0 k n0 n1)))
              rw [shf_take hu (by omega), ← List.append_assoc]
              have eS : shT (u.getD i 0) (dp u i) k = S.1.getD (s + i) 0 := by unfold shT; rw [hgi]; first | rw [if_pos (by omega)] | rw [if_neg (by omega)]
              rw [eS]
              exact Rs_add _ hx hR.len
            · exact absurd hb70 (by decide)
          · refine A_iconst (q := 58) X dX5_addShifted_57 rfl ?_
            refine A_goto (q := 62) X dX5_addShifted_58 rfl ?_
            refine A_istore (q := 64) X dX5_addShifted_62 (by decide) (okP_s rfl rfl) rfl ?_
            refine A_aload_n (q := 65) X dX5_addShifted_64 rfl rfl ?_
            refine A_getf (q := 68) X fX5_24 dX5_addShifted_65 (by omega) h14 rfl rfl ?_
            refine A_iload (q := 70) X dX5_addShifted_68 rfl rfl ?_
            refine A_if_eq (q := 73) (t := 81) X dX5_addShifted_70 (by decide) rfl rfl (fun hb70 => ?_) (fun hb70 => ?_)
            · exact absurd hb70 (by decide)
            · refine A_iload (q := 75) X dX5_addShifted_73 rfl rfl ?_
              refine A_iload (q := 77) X dX5_addShifted_75 rfl rfl ?_
              refine A_iadd (q := 78) X dX5_addShifted_77 rfl ?_
              refine A_goto (q := 83) X dX5_addShifted_78 rfl ?_
              refine A_V1v (q := 86) X (c_X6_add (t := ((S.1.getD (s + i) 0) + ((k : Nat) : Int))) hG hR) mX6_add kX5_96 dX5_addShifted_83 (by omega) hR.cell rfl (by decide) (Nat.le_of_ble_eq_true rfl) rfl (fun cq_22 hq_21 => ?_)
              obtain ⟨hT_23, hf_24⟩ := hq_21
              refine A_iinc (q := 89) X dX5_addShifted_86 rfl (by decide) (okP_s rfl rfl) rfl ?_
              refine A_goto (q := 10) X dX5_addShifted_89 rfl ?_
              refine AW.loc (sS rfl (sS rfl (sS rfl (sS rfl (sS rfl (sS rfl (sS rfl (sZ rfl (by omega) (sN (sN sE)))))))))) (ih (i + 1) _ _ (by omega) (by omega) hT_23 ?_ (fun k n0 n1 => (hf_24 k n0 n1).trans (hf0 k n0 n1)))
              rw [shf_take hu (by omega), ← List.append_assoc]
              have eS : shT (u.getD i 0) (dp u i) k = S.1.getD (s + i) 0 + ((k : Nat) : Int) := by unfold shT; rw [hgi]; first | rw [if_pos (by omega)] | rw [if_neg (by omega)]
              rw [eS]
              exact Rs_add _ hx hR.len
set_option maxRecDepth 100000 in
set_option maxHeartbeats 4000000 in
theorem c_X5_addShifted {l : Launch} {G : Gm} {c : HP} {t ta o oa ob s k cu : Nat} {E D : Nat → Int} {S : List Int × Int} {u x : List Int} {T : List Int × Int} (hG : injG G) (hN : G.2.1 = 72) (h140 : c14 G c) (hT0 : Tm G c t ta S) (hgd : Gd S.1) (hO0 : Ol G c o oa ob S.1.length E D) (hD : ∀ j, j < S.1.length → D j = (dp S.1 j : Nat)) (hu : One u cu) (hsu : s + u.length ≤ S.1.length) (hgu : ∀ i, i < u.length → S.1.getD (s + i) 0 = u.getD i 0) (hdu : ∀ i, i < u.length → dp S.1 (s + i) = dp S.1 s + dp u i) (hk : k ≤ 1000) (x1 : t < 11) (x2 : ta < 11) (x3 : 15 ≤ o ∧ o ≤ 20) (x4 : 15 ≤ oa ∧ oa ≤ 20) (x5 : 15 ≤ ob ∧ ob ≤ 20) (hR : Tm G c 21 22 T) (hx : Rs T x) : AMet l G yX5_addShifted cX5_addShifted 10 (none) (rmR 1 21) [.ref (G.1 14), .ref (G.1 t), .ref (G.1 o), .int (zI ((s : Nat) : Int)), .int (zI (((s + u.length) : Nat) : Int)), .int (zI ((k : Nat) : Int))] c (Qv (fun c' => ∃ T', Tm G c' 21 22 T' ∧ Rs T' (x ++ shf u [0] k) ∧ (∀ k, k ≠ 21 → k ≠ 22 → c' k = c k))) := by
  refine AMet.of (vl := [some (.ref (G.1 14)), some (.ref (G.1 t)), some (.ref (G.1 o)), some (.int (zI ((s : Nat) : Int))), some (.int (zI (((s + u.length) : Nat) : Int))), some (.int (zI ((k : Nat) : Int)))]) (by decide) hG (Nat.le_of_ble_eq_true rfl) rfl ?_
  intro K X
  have X : Fx l G K cX5_addShifted 10 RX5 (none) (rmR 1 21) := X
  have hlen := hT0.len
  have hup := hu.pos
  have hds := dp_le S.1 s
  refine A_aload_n (q := 1) X dX5_addShifted_0 rfl rfl ?_
  refine A_iload_n (q := 2) X dX5_addShifted_1 rfl rfl ?_
  refine A_V1i (q := 5) X (c_X4_depthAt hG hO0 (by omega)) mX4_depthAt kX5_85 dX5_addShifted_2 hO0.lt hO0.cell rfl (by decide) (Nat.le_of_ble_eq_true rfl) rfl (fun vq_3 cq_2 hq_1 => ?_)
  obtain ⟨rfl, hq_1⟩ := hq_1
  obtain rfl := hq_1.symm
  rw [olD_in hD rfl (by omega)]
  refine A_istore (q := 7) X dX5_addShifted_5 (by decide) (okP_s rfl rfl) rfl ?_
  refine A_iload_n (q := 8) X dX5_addShifted_7 rfl rfl ?_
  refine A_istore (q := 10) X dX5_addShifted_8 (by decide) (okP_s rfl rfl) rfl ?_
  exact AW.loc (sS rfl (sS rfl (sS rfl (sS rfl (sS rfl (sS rfl (sS rfl (sZ rfl (by omega) (sN (sN sE)))))))))) (lp_X5_addShifted X hG hN h140 hT0 hgd hO0 hD hu hsu hgu hdu hk x1 x2 x3 x4 x5 _ 0 T c (Nat.lt_succ_self _) (Nat.zero_le _) hR (by rw [List.take_zero]; show Rs T (x ++ []); rw [List.append_nil]; exact hx) (fun _ _ _ => rfl))
set_option maxRecDepth 100000 in
set_option maxHeartbeats 4000000 in
theorem lp_X5_addContracted {l : Launch} {G : Gm} {K : Cx} {c0 : HP} {t ta b0 : Nat} {E D : Nat → Int} {S : List Int × Int} {x : List Int} (X : Fx l G K cX5_addContracted 9 RX5 (none) (rmR 2 50)) (hG : injG G) (hN : G.2.1 = 72) (h140 : c14 G c0) (hT0 : Tm G c0 t ta S) (hgd : Gd S.1) (hO0 : Ol G c0 15 16 17 S.1.length E D) (hD : ∀ j, j < S.1.length → D j = (dp S.1 j : Nat)) (hb0 : b0 < S.1.length) (ha0 : en S.1 b0 < S.1.length) (x1 : t < 11) (x2 : ta < 11) : ∀ (n : Nat) (i : Nat) (T : List Int × Int) (c : HP), (sub_ S.1 b0).length - i < n → i ≤ (sub_ S.1 b0).length → Tm G c 21 22 T → Rs T (x ++ sb ((sub_ S.1 b0).take i) [0] (sub_ S.1 (en S.1 b0))) → (∀ k, k ≠ 21 → k ≠ 22 → c k = c0 k) → AW G K (Qv (fun c' => ∃ T', Tm G c' 21 22 T' ∧ Rs T' (x ++ sb (sub_ S.1 b0) [0] (sub_ S.1 (en S.1 b0))) ∧ (∀ k, k ≠ 21 → k ≠ 22 → c' k = c0 k))) 13 (mkL [some (.ref (G.1 14)), some (.ref (G.1 t)), some (.int (zI ((b0 : Nat) : Int))), some (.int (zI (((en S.1 b0) : Nat) : Int))), some (.int (zI (((en S.1 (en S.1 b0)) : Nat) : Int))), some (.int (zI (((dp S.1 b0) : Nat) : Int))), some (.int (zI (((b0 + i) : Nat) : Int))), none, none]) [] c := by
  intro n
  induction n with
  | zero => intro i T c hmz; exact absurd hmz (Nat.not_lt_zero _)
  | succ n ih =>
    intro i T c hmz hi hR hx hf0
    have h14 := (hf0 14 (by omega) (by omega)).trans h140
    have hT := hT0.keep (hf0 t (by omega) (by omega)) (hf0 ta (by omega) (by omega))
    have hO := hO0.keep (hf0 15 (by omega) (by omega)) (hf0 16 (by omega) (by omega)) (hf0 17 (by omega) (by omega))
    have hlen := hT.len
    have hds := dp_le S.1 b0
    obtain ⟨cb, ob, olb, odb⟩ := hgd.one.sub hb0
    obtain ⟨ca, oa, ola, oda⟩ := hgd.one.sub ha0
    have hgd2 := hgd
    have hD2 := hD
    have eg1 := en_gt (l := S.1) hb0
    have eg2 := en_gt (l := S.1) ha0
    have eg3 := en_le (l := S.1) (i := en S.1 b0) (by omega)
    refine A_iload (q := 15) X dX5_addContracted_13 rfl rfl ?_
    refine A_iload_n (q := 16) X dX5_addContracted_15 rfl rfl ?_
    refine A_icmp_ge (q := 19) (t := 119) X dX5_addContracted_16 (by omega) (by omega) rfl rfl (fun hb16 => ?_) (fun hb16 => ?_)
    · exact A_return X dX5_addContracted_119 ⟨T, hR, by rw [take_all (by omega)] at hx; exact hx, hf0⟩
    · refine A_aload_n (q := 20) X dX5_addContracted_19 rfl rfl ?_
      refine A_getf (q := 23) X fX5_24 dX5_addContracted_20 (by omega) h14 rfl rfl ?_
      refine A_V0i (q := 26) X (c_X6_isTooLarge hG hR) mX6_isTooLarge kX5_88 dX5_addContracted_23 (by omega) hR.cell rfl (by decide) (Nat.le_of_ble_eq_true rfl) rfl (fun vq_3 cq_2 hq_1 => ?_)
      obtain ⟨rfl, hq_1⟩ := hq_1
      obtain rfl := hq_1.symm
      have hb01 := hR.b01
      refine A_if_ne (q := 29) (t := 119) X dX5_addContracted_26 (by omega) rfl rfl (fun hb26 => ?_) (fun hb26 => ?_)
      · refine A_return X dX5_addContracted_119 ⟨T, hR, Rs_big hx (by omega) ?_, hf0⟩
        have e0 : sb (sub_ S.1 b0) [0] (sub_ S.1 (en S.1 b0)) = sb ((sub_ S.1 b0).take i) [0] (sub_ S.1 (en S.1 b0)) ++ sb ((sub_ S.1 b0).drop i) (stk ((sub_ S.1 b0).take i) [0]) (sub_ S.1 (en S.1 b0)) := by rw [← sb_app, List.take_append_drop]
        rw [e0]
        simp only [List.length_append]
        omega
      · refine A_aload_n (q := 30) X dX5_addContracted_29 rfl rfl ?_
        refine A_iload (q := 32) X dX5_addContracted_30 rfl rfl ?_
        refine A_V1i (q := 35) X (c_X6_token hG hT (by omega)) mX6_token kX5_28 dX5_addContracted_32 hT.lt hT.cell rfl (by decide) (Nat.le_of_ble_eq_true rfl) rfl (fun vq_6 cq_5 hq_4 => ?_)
        obtain ⟨rfl, hq_4⟩ := hq_4
        obtain rfl := hq_4.symm
        rw [tokA_in (by omega)]
        have htk := hgd.at (i := b0 + i) (by omega)
        have htk2 := hgd.at2 (i := b0 + i) (by omega)
        have hgi := getD_sub (l := S.1) (s := b0) (i := i) (by omega)
        have hdi := odb i (by omega)
        have hdl := dp_le S.1 (b0 + i)
        refine A_istore (q := 37) X dX5_addContracted_35 (by decide) (okP_s rfl rfl) rfl ?_
        refine A_aload_n (q := 38) X dX5_addContracted_37 rfl rfl ?_
        refine A_getf (q := 41) X fX5_12 dX5_addContracted_38 (by omega) h14 rfl rfl ?_
        refine A_iload (q := 43) X dX5_addContracted_41 rfl rfl ?_
        refine A_V1i (q := 46) X (c_X4_depthAt hG hO (by omega)) mX4_depthAt kX5_85 dX5_addContracted_43 hO.lt hO.cell rfl (by decide) (Nat.le_of_ble_eq_true rfl) rfl (fun vq_9 cq_8 hq_7 => ?_)
        obtain ⟨rfl, hq_7⟩ := hq_7
        obtain rfl := hq_7.symm
        rw [olD_in hD rfl (by omega)]
        refine A_iload (q := 48) X dX5_addContracted_46 rfl rfl ?_
        refine A_isub (q := 49) X dX5_addContracted_48 rfl ?_
        rw [show ((dp S.1 (b0 + i) : Nat) : Int) - ((dp S.1 b0 : Nat) : Int) = ((dp (sub_ S.1 b0) i : Nat) : Int) by omega]
        refine A_istore (q := 51) X dX5_addContracted_49 (by decide) (okP_s rfl rfl) rfl ?_
        refine A_iload (q := 53) X dX5_addContracted_51 rfl rfl ?_
        refine A_N1i (q := 56) X (c_X8_isVariable hG (by omega)) mX8_isVariable (by decide +kernel) dX5_addContracted_53 (by decide) (Nat.le_of_ble_eq_true rfl) rfl (fun vq_12 cq_11 hq_10 => ?_)
        obtain ⟨rfl, hq_10⟩ := hq_10
        obtain rfl := hq_10.symm
        refine A_beq (q := 59) (t := 66) X dX5_addContracted_56 rfl rfl (fun hb56 => ?_) (fun hb56 => ?_)
        · refine A_aload_n (q := 67) X dX5_addContracted_66 rfl rfl ?_
          refine A_getf (q := 70) X fX5_24 dX5_addContracted_67 (by omega) h14 rfl rfl ?_
          refine A_iload (q := 72) X dX5_addContracted_70 rfl rfl ?_
          refine A_V1v (q := 75) X (c_X6_add (t := (S.1.getD (b0 + i) 0)) hG hR) mX6_add kX5_96 dX5_addContracted_72 (by omega) hR.cell rfl (by decide) (Nat.le_of_ble_eq_true rfl) rfl (fun cq_14 hq_13 => ?_)
          obtain ⟨hT_15, hf_16⟩ := hq_13
          refine A_goto (q := 113) X dX5_addContracted_75 rfl ?_
          refine A_iinc (q := 116) X dX5_addContracted_113 rfl (by decide) (okP_s rfl rfl) rfl ?_
          refine A_goto (q := 13) X dX5_addContracted_116 rfl ?_
          refine AW.loc (sS rfl (sS rfl (sS rfl (sS rfl (sS rfl (sS rfl (sZ rfl (by omega) (sN (sN sE))))))))) (ih (i + 1) _ _ (by omega) (by omega) hT_15 ?_ (fun k n0 n1 => (hf_16 k n0 n1).trans (hf0 k n0 n1)))
          rw [sb_take ob (by omega), ← List.append_assoc]
          have eS : pce ((sub_ S.1 b0).getD i 0) (dp (sub_ S.1 b0) i) (sub_ S.1 (en S.1 b0)) = [S.1.getD (b0 + i) 0] := by unfold pce; rw [hgi]; rw [if_pos (by omega)]
          rw [eS]
          exact Rs_add _ hx hR.len
        · refine A_iload (q := 61) X dX5_addContracted_59 rfl rfl ?_
          refine A_iload (q := 63) X dX5_addContracted_61 rfl rfl ?_
          refine A_icmp_ge (q := 66) (t := 78) X dX5_addContracted_63 (by omega) (by omega) rfl rfl (fun hb63 => ?_) (fun hb63 => ?_)
          · refine A_iload (q := 80) X dX5_addContracted_78 rfl rfl ?_
            refine A_iload (q := 82) X dX5_addContracted_80 rfl rfl ?_
            refine A_icmp_ne (q := 85) (t := 102) X dX5_addContracted_82 (by omega) (by omega) rfl rfl (fun hb82 => ?_) (fun hb82 => ?_)
            · refine A_aload_n (q := 103) X dX5_addContracted_102 rfl rfl ?_
              refine A_getf (q := 106) X fX5_24 dX5_addContracted_103 (by omega) h14 rfl rfl ?_
              refine A_iload (q := 108) X dX5_addContracted_106 rfl rfl ?_
              refine A_iconst (q := 109) X dX5_addContracted_108 rfl ?_
              refine A_isub (q := 110) X dX5_addContracted_109 rfl ?_
              refine A_V1v (q := 113) X (c_X6_add (t := ((S.1.getD (b0 + i) 0) - 1)) hG hR) mX6_add kX5_96 dX5_addContracted_110 (by omega) hR.cell rfl (by decide) (Nat.le_of_ble_eq_true rfl) rfl (fun cq_18 hq_17 => ?_)
              obtain ⟨hT_19, hf_20⟩ := hq_17
              refine A_iinc (q := 116) X dX5_addContracted_113 rfl (by decide) (okP_s rfl rfl) rfl ?_
              refine A_goto (q := 13) X dX5_addContracted_116 rfl ?_
              refine AW.loc (sS rfl (sS rfl (sS rfl (sS rfl (sS rfl (sS rfl (sZ rfl (by omega) (sN (sN sE))))))))) (ih (i + 1) _ _ (by omega) (by omega) hT_19 ?_ (fun k n0 n1 => (hf_20 k n0 n1).trans (hf0 k n0 n1)))
              rw [sb_take ob (by omega), ← List.append_assoc]
              have eS : pce ((sub_ S.1 b0).getD i 0) (dp (sub_ S.1 b0) i) (sub_ S.1 (en S.1 b0)) = [S.1.getD (b0 + i) 0 - 1] := by unfold pce; rw [hgi]; rw [if_neg (by omega), if_neg (by omega)]
              rw [eS]
              exact Rs_add _ hx hR.len
            · refine A_aload_n (q := 86) X dX5_addContracted_85 rfl rfl ?_
              refine A_aload_n (q := 87) X dX5_addContracted_86 rfl rfl ?_
              refine A_aload_n (q := 88) X dX5_addContracted_87 rfl rfl ?_
              refine A_getf (q := 91) X fX5_12 dX5_addContracted_88 (by omega) h14 rfl rfl ?_
              refine A_iload_n (q := 92) X dX5_addContracted_91 rfl rfl ?_
              refine A_iload (q := 94) X dX5_addContracted_92 rfl rfl ?_
              refine A_iload (q := 96) X dX5_addContracted_94 rfl rfl ?_
              rw [show ((en S.1 (en S.1 b0) : Nat) : Int) = ((en S.1 b0 + (sub_ S.1 (en S.1 b0)).length : Nat) : Int) by omega]
              refine A_V5v (q := 99) X (c_X5_addShifted (s := ((en S.1 b0))) (k := ((dp (sub_ S.1 b0) i))) (u := sub_ S.1 (en S.1 b0)) (x := x ++ sb ((sub_ S.1 b0).take i) [0] (sub_ S.1 (en S.1 b0))) hG hN h14 hT hgd2 hO hD2 oa (by omega) (fun i hi => (getD_sub (by omega)).symm) (fun i hi => oda i (by omega)) (by omega) (by omega) (by omega) (by omega) (by omega) (by omega) hR hx) mX5_addShifted kX5_100 dX5_addContracted_96 (by omega) h14 rfl (by decide) (Nat.le_of_ble_eq_true rfl) rfl (fun cq_22 hq_21 => ?_)
              obtain ⟨T_23, hR_24, hx_25, hf_26⟩ := hq_21
              refine A_goto (q := 113) X dX5_addContracted_99 rfl ?_
              refine A_iinc (q := 116) X dX5_addContracted_113 rfl (by decide) (okP_s rfl rfl) rfl ?_
              refine A_goto (q := 13) X dX5_addContracted_116 rfl ?_
              refine AW.loc (sS rfl (sS rfl (sS rfl (sS rfl (sZ rfl (by omega) (sS rfl (sZ rfl (by omega) (sN (sN sE))))))))) (ih (i + 1) _ _ (by omega) (by omega) hR_24 ?_ (fun k n0 n1 => (hf_26 k n0 n1).trans (hf0 k n0 n1)))
              rw [sb_take ob (by omega), ← List.append_assoc]
              have eS : pce ((sub_ S.1 b0).getD i 0) (dp (sub_ S.1 b0) i) (sub_ S.1 (en S.1 b0)) = shf (sub_ S.1 (en S.1 b0)) [0] (dp (sub_ S.1 b0) i) := by unfold pce; rw [hgi]; rw [if_neg (by omega), if_pos (by omega)]
              rw [eS]
              exact hx_25
          · refine A_aload_n (q := 67) X dX5_addContracted_66 rfl rfl ?_
            refine A_getf (q := 70) X fX5_24 dX5_addContracted_67 (by omega) h14 rfl rfl ?_
            refine A_iload (q := 72) X dX5_addContracted_70 rfl rfl ?_
            refine A_V1v (q := 75) X (c_X6_add (t := (S.1.getD (b0 + i) 0)) hG hR) mX6_add kX5_96 dX5_addContracted_72 (by omega) hR.cell rfl (by decide) (Nat.le_of_ble_eq_true rfl) rfl (fun cq_28 hq_27 => ?_)
            obtain ⟨hT_29, hf_30⟩ := hq_27
            refine A_goto (q := 113) X dX5_addContracted_75 rfl ?_
            refine A_iinc (q := 116) X dX5_addContracted_113 rfl (by decide) (okP_s rfl rfl) rfl ?_
            refine A_goto (q := 13) X dX5_addContracted_116 rfl ?_
            refine AW.loc (sS rfl (sS rfl (sS rfl (sS rfl (sS rfl (sS rfl (sZ rfl (by omega) (sN (sN sE))))))))) (ih (i + 1) _ _ (by omega) (by omega) hT_29 ?_ (fun k n0 n1 => (hf_30 k n0 n1).trans (hf0 k n0 n1)))
            rw [sb_take ob (by omega), ← List.append_assoc]
            have eS : pce ((sub_ S.1 b0).getD i 0) (dp (sub_ S.1 b0) i) (sub_ S.1 (en S.1 b0)) = [S.1.getD (b0 + i) 0] := by unfold pce; rw [hgi]; rw [if_pos (by omega)]
            rw [eS]
            exact Rs_add _ hx hR.len
set_option maxRecDepth 100000 in
set_option maxHeartbeats 4000000 in
theorem c_X5_addContracted {l : Launch} {G : Gm} {c : HP} {t ta b0 : Nat} {E D : Nat → Int} {S : List Int × Int} {x : List Int} {T : List Int × Int} (hG : injG G) (hN : G.2.1 = 72) (h140 : c14 G c) (hT0 : Tm G c t ta S) (hgd : Gd S.1) (hO0 : Ol G c 15 16 17 S.1.length E D) (hD : ∀ j, j < S.1.length → D j = (dp S.1 j : Nat)) (hb0 : b0 < S.1.length) (ha0 : en S.1 b0 < S.1.length) (x1 : t < 11) (x2 : ta < 11) (hR : Tm G c 21 22 T) (hx : Rs T x) : AMet l G yX5_addContracted cX5_addContracted 9 (none) (rmR 2 50) [.ref (G.1 14), .ref (G.1 t), .int (zI ((b0 : Nat) : Int)), .int (zI (((en S.1 b0) : Nat) : Int)), .int (zI (((en S.1 (en S.1 b0)) : Nat) : Int))] c (Qv (fun c' => ∃ T', Tm G c' 21 22 T' ∧ Rs T' (x ++ sb (sub_ S.1 b0) [0] (sub_ S.1 (en S.1 b0))) ∧ (∀ k, k ≠ 21 → k ≠ 22 → c' k = c k))) := by
  refine AMet.of (vl := [some (.ref (G.1 14)), some (.ref (G.1 t)), some (.int (zI ((b0 : Nat) : Int))), some (.int (zI (((en S.1 b0) : Nat) : Int))), some (.int (zI (((en S.1 (en S.1 b0)) : Nat) : Int)))]) (by decide) hG (Nat.le_of_ble_eq_true rfl) rfl ?_
  intro K X
  have X : Fx l G K cX5_addContracted 9 RX5 (none) (rmR 2 50) := X
  have hlen := hT0.len
  refine A_aload_n (q := 1) X dX5_addContracted_0 rfl rfl ?_
  refine A_getf (q := 4) X fX5_12 dX5_addContracted_1 (by omega) h140 rfl rfl ?_
  refine A_iload_n (q := 5) X dX5_addContracted_4 rfl rfl ?_
  refine A_V1i (q := 8) X (c_X4_depthAt hG hO0 (by omega)) mX4_depthAt kX5_85 dX5_addContracted_5 hO0.lt hO0.cell rfl (by decide) (Nat.le_of_ble_eq_true rfl) rfl (fun vq_3 cq_2 hq_1 => ?_)
  obtain ⟨rfl, hq_1⟩ := hq_1
  obtain rfl := hq_1.symm
  rw [olD_in hD rfl (by omega)]
  refine A_istore (q := 10) X dX5_addContracted_8 (by decide) (okP_s rfl rfl) rfl ?_
  refine A_iload_n (q := 11) X dX5_addContracted_10 rfl rfl ?_
  refine A_istore (q := 13) X dX5_addContracted_11 (by decide) (okP_s rfl rfl) rfl ?_
  exact AW.loc (sS rfl (sS rfl (sS rfl (sS rfl (sS rfl (sS rfl (sZ rfl (by omega) (sN (sN sE))))))))) (lp_X5_addContracted X hG hN h140 hT0 hgd hO0 hD hb0 ha0 x1 x2 _ 0 T c (Nat.lt_succ_self _) (Nat.zero_le _) hR (by rw [List.take_zero]; show Rs T (x ++ []); rw [List.append_nil]; exact hx) (fun _ _ _ => rfl))
set_option maxRecDepth 100000 in
set_option maxHeartbeats 4000000 in
theorem c_X5_takeResult {l : Launch} {G : Gm} {c : HP} {t ta : Nat} {S T : List Int × Int} (hG : injG G) (hN : G.2.1 = 72) (h14 : c14 G c) (hT : Tm G c t ta S) (hR : Tm G c 21 22 T) (x1 : t < 11) (x2 : ta < 11) : AMet l G yX5_takeResult cX5_takeResult 2 ((some .boolean)) (rmR 2 61) [.ref (G.1 14), .ref (G.1 t)] c (Qi (fun v c' => v = zI (if T.2 = 0 then 1 else 0) ∧ Tm G c' t ta (if T.2 = 0 then T else S) ∧ (∀ k, k ≠ t → k ≠ ta → c' k = c k))) := by
  refine AMet.of (vl := [some (.ref (G.1 14)), some (.ref (G.1 t))]) (by decide) hG (Nat.le_of_ble_eq_true rfl) rfl ?_
  intro K X
  have X : Fx l G K cX5_takeResult 2 RX5 ((some .boolean)) (rmR 2 61) := X
  refine A_aload_n (q := 1) X dX5_takeResult_0 rfl rfl ?_
  refine A_getf (q := 4) X fX5_24 dX5_takeResult_1 (by omega) h14 rfl rfl ?_
  refine A_V0i (q := 7) X (c_X6_isTooLarge hG hR) mX6_isTooLarge kX5_88 dX5_takeResult_4 (by omega) hR.cell rfl (by decide) (Nat.le_of_ble_eq_true rfl) rfl (fun vq_3 cq_2 hq_1 => ?_)
  obtain ⟨rfl, hq_1⟩ := hq_1
  obtain rfl := hq_1.symm
  have hb01 := hR.b01
  refine A_if_eq (q := 10) (t := 12) X dX5_takeResult_7 (by omega) rfl rfl (fun hb7 => ?_) (fun hb7 => ?_)
  · refine A_aload_n (q := 13) X dX5_takeResult_12 rfl rfl ?_
    refine A_aload_n (q := 14) X dX5_takeResult_13 rfl rfl ?_
    refine A_getf (q := 17) X fX5_24 dX5_takeResult_14 (by omega) h14 rfl rfl ?_
    refine A_V1v (q := 20) X (c_X6_copyFrom hG hT hR (by omega) (by omega) (by omega) (by omega)) mX6_copyFrom kX5_104 dX5_takeResult_17 hT.lt hT.cell rfl (by decide) (Nat.le_of_ble_eq_true rfl) rfl (fun cq_5 hq_4 => ?_)
    obtain ⟨hT_6, hf_7⟩ := hq_4
    refine A_iconst (q := 21) X dX5_takeResult_20 rfl ?_
    exact A_zreturn X dX5_takeResult_21 (by decide) ⟨zb1 (by omega), by rw [if_pos (by omega)]; exact hT_6, hf_7⟩
  · refine A_iconst (q := 11) X dX5_takeResult_10 rfl ?_
    exact A_zreturn X dX5_takeResult_11 (by decide) ⟨zb0 (by omega), by rw [if_neg (by omega)]; exact hT, fun _ _ _ => rfl⟩
