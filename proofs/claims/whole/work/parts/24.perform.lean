/-! REDUCER: contract, perform, replaceFree -/
def Rd (G : Gm) (c : HP) : Prop := c14 G c ∧ (∃ n E D, Ol G c 15 16 17 n E D) ∧ (∃ n E D, Ol G c 18 19 20 n E D) ∧ ∃ T, Tm G c 21 22 T
theorem Rd.keep {G : Gm} {c c' : HP} (h : Rd G c) (q : ∀ k, 14 ≤ k → k ≤ 22 → c' k = c k) : Rd G c' := by
  obtain ⟨h1, ⟨n1, E1, D1, h2⟩, ⟨n2, E2, D2, h3⟩, T, h4⟩ := h
  exact ⟨(q 14 (by omega) (by omega)).trans h1, ⟨n1, E1, D1, h2.keep (q 15 (by omega) (by omega)) (q 16 (by omega) (by omega)) (q 17 (by omega) (by omega))⟩, ⟨n2, E2, D2, h3.keep (q 18 (by omega) (by omega)) (q 19 (by omega) (by omega)) (q 20 (by omega) (by omega))⟩, T, h4.keep (q 21 (by omega) (by omega)) (q 22 (by omega) (by omega))⟩
theorem ctr_fin {l : List Int} {k : Nat} (hr : rx l k) : (([] ++ (l.drop 0).take (k - 0)) ++ sb (sub_ l (k + 2)) [0] (sub_ l (en l (k + 2)))) ++ (l.drop (en l (en l (k + 2)))).take (l.length - en l (en l (k + 2))) = ctr l k := by
  obtain ⟨h1, h2, h3⟩ := rx_lt hr
  have e : en l (k + 1) = en l (k + 2) := en_abs h1 (by rw [h3]; rfl)
  unfold ctr
  rw [e, List.drop_zero, Nat.sub_zero, List.nil_append, List.append_assoc]
  congr 1
  congr 1
  rw [List.take_of_length_le]
  rw [List.length_drop]
  exact Nat.le_refl _
theorem Rs_0 {T : List Int × Int} {x : List Int} (h : Rs T x) (h2 : T.2 = 0) : T = (x, 0) := by
  rcases h with ⟨-, e⟩ | ⟨e, -⟩
  · rw [← e, ← h2]
  · rw [e] at h2
    exact absurd h2 (by decide)
theorem Rs_1 {T : List Int × Int} {x : List Int} (h : Rs T x) (h2 : ¬ T.2 = 0) : 200 < x.length := by
  rcases h with ⟨e, -⟩ | ⟨-, e⟩
  · exact absurd e h2
  · exact e
theorem ctO_rx {l : List Int} {k : Nat} (hr : rx l k) : ctO l (k : Nat) = if (ctr l k).length ≤ 200 then some (ctr l k) else none := by
  unfold ctO
  rw [if_pos hr, Int.toNat_natCast]
theorem ctO_no {l : List Int} {p : Int} (h : ¬ (tokA l p = 1000 ∧ tokA l (p + 1) = 1001)) : ctO l p = none := by
  unfold ctO
  rw [if_neg h]
set_option maxRecDepth 100000 in
set_option maxHeartbeats 4000000 in
theorem c_X5_contract {l : Launch} {G : Gm} {c : HP} {t ta : Nat} {S : List Int × Int} {p : Int} (hG : injG G) (hN : G.2.1 = 72) (hRd0 : Rd G c) (hT : Tm G c t ta S) (hS2 : S.2 = 0) (hgd : Gd S.1) (hp : -10 ≤ p ∧ p ≤ 1000) (x1 : t < 11) (x2 : ta < 11) : AMet l G yX5_contract cX5_contract 5 ((some .boolean)) (rmR 3 82) [.ref (G.1 14), .ref (G.1 t), .int (zI p)] c (Qi (fun v c' => v = zI (if (ctO S.1 p).isSome = true then 1 else 0) ∧ Tm G c' t ta ((ctO S.1 p).getD S.1, 0) ∧ Rd G c' ∧ (∀ k, (k < 14 ∨ 22 < k) → k ≠ t → k ≠ ta → c' k = c k))) := by
  refine AMet.of (vl := [some (.ref (G.1 14)), some (.ref (G.1 t)), some (.int (zI p))]) (by decide) hG (Nat.le_of_ble_eq_true rfl) rfl ?_
  intro K X
  have X : Fx l G K cX5_contract 5 RX5 ((some .boolean)) (rmR 3 82) := X
  obtain ⟨h14, ⟨n1, E1, D1, hO⟩, ⟨n2, E2, D2, hO2⟩, T0, hR⟩ := hRd0
  have hlen := hT.len
  refine A_aload_n (q := 1) X dX5_contract_0 rfl rfl ?_
  refine A_iload_n (q := 2) X dX5_contract_1 rfl rfl ?_
  refine A_S2i (q := 5) X (c_X5_isRedex hG hT hgd (by omega)) mX5_isRedex kX5_36 dX5_contract_2 (by decide) (Nat.le_of_ble_eq_true rfl) rfl (fun vq_3 cq_2 hq_1 => ?_)
  obtain ⟨rfl, hq_1⟩ := hq_1
  obtain rfl := hq_1.symm
  refine A_bne (q := 8) (t := 10) X dX5_contract_5 rfl rfl (fun hb5 => ?_) (fun hb5 => ?_)
  · obtain ⟨k, rfl, hr⟩ := rx_int hb5
    obtain ⟨hk1, hk2, hk3⟩ := rx_lt hr
    have e12 : en S.1 (k + 1) = en S.1 (k + 2) := en_abs hk1 (by rw [hk3]; rfl)
    obtain ⟨cc0, cs0, body, arg, post, -, -, wb, wa, -, -, en1, en2, hsum⟩ := rx_split hgd hr
    have lb := wfr_le _ _ wb
    have la := wfr_le _ _ wa
    simp only [List.length_singleton] at lb la
    rw [e12] at en1 en2
    refine A_aload_n (q := 11) X dX5_contract_10 rfl rfl ?_
    refine A_getf (q := 14) X fX5_12 dX5_contract_11 (by omega) h14 rfl rfl ?_
    refine A_aload_n (q := 15) X dX5_contract_14 rfl rfl ?_
    refine A_V1v (q := 18) X (c_X4_measure hG hgd (by omega) (by omega) (by omega) (by omega) (by omega) (by omega) hT hO) mX4_measure kX5_63 dX5_contract_15 hO.lt hO.cell rfl (by decide) (Nat.le_of_ble_eq_true rfl) rfl (fun cq_5 hq_4 => ?_)
    obtain ⟨E_6, D_7, hO_8, hE_9, hD_10, hf_11⟩ := hq_4
    refine A_aload_n (q := 19) X dX5_contract_18 rfl rfl ?_
    refine A_getf (q := 22) X fX5_12 dX5_contract_19 (by omega) ((hf_11 _ (by omega) (by omega) (by omega)).trans h14) rfl rfl ?_
    refine A_iload_n (q := 23) X dX5_contract_22 rfl rfl ?_
    refine A_iconst (q := 24) X dX5_contract_23 rfl ?_
    refine A_iadd (q := 25) X dX5_contract_24 rfl ?_
    refine A_V1i (q := 28) X (c_X4_endAt hG hO_8 (by omega)) mX4_endAt kX5_67 dX5_contract_25 hO.lt hO_8.cell rfl (by decide) (Nat.le_of_ble_eq_true rfl) rfl (fun vq_14 cq_13 hq_12 => ?_)
    obtain ⟨rfl, hq_12⟩ := hq_12
    obtain rfl := hq_12.symm
    rw [olE_en (k := k + 1) (i := 0) rfl (fun j _ h => hE_9 j h) (by omega) (by omega) (by omega), e12]
    refine A_istore_n (q := 29) X dX5_contract_28 (by decide) (okP_s rfl rfl) rfl ?_
    refine A_aload_n (q := 30) X dX5_contract_29 rfl rfl ?_
    refine A_getf (q := 33) X fX5_12 dX5_contract_30 (by omega) ((hf_11 _ (by omega) (by omega) (by omega)).trans h14) rfl rfl ?_
    refine A_iload_n (q := 34) X dX5_contract_33 rfl rfl ?_
    refine A_V1i (q := 37) X (c_X4_endAt hG hO_8 (by omega)) mX4_endAt kX5_67 dX5_contract_34 hO.lt hO_8.cell rfl (by decide) (Nat.le_of_ble_eq_true rfl) rfl (fun vq_17 cq_16 hq_15 => ?_)
    obtain ⟨rfl, hq_15⟩ := hq_15
    obtain rfl := hq_15.symm
    rw [olE_en (k := en S.1 (k + 2)) (i := 0) rfl (fun j _ h => hE_9 j h) rfl (by omega) (by omega)]
    refine A_istore (q := 39) X dX5_contract_37 (by decide) (okP_s rfl rfl) rfl ?_
    refine A_aload_n (q := 40) X dX5_contract_39 rfl rfl ?_
    refine A_getf (q := 43) X fX5_24 dX5_contract_40 (by omega) ((hf_11 _ (by omega) (by omega) (by omega)).trans h14) rfl rfl ?_
    refine A_V0v (q := 46) X (c_X6_clear hG (hR.keep ((hf_11 21 (by omega) (by omega) (by omega)).trans rfl) ((hf_11 22 (by omega) (by omega) (by omega)).trans rfl))) mX6_clear kX5_70 dX5_contract_43 (by omega) (hR.keep ((hf_11 21 (by omega) (by omega) (by omega)).trans rfl) ((hf_11 22 (by omega) (by omega) (by omega)).trans rfl)).cell rfl (by decide) (Nat.le_of_ble_eq_true rfl) rfl (fun cq_19 hq_18 => ?_)
    obtain ⟨hT_20, hf_21⟩ := hq_18
    have hx0 : Rs (([], 0) : List Int × Int) [] := Or.inl ⟨rfl, rfl⟩
    refine A_aload_n (q := 47) X dX5_contract_46 rfl rfl ?_
    refine A_getf (q := 50) X fX5_24 dX5_contract_47 (by omega) ((hf_21 _ (by omega) (by omega)).trans ((hf_11 _ (by omega) (by omega) (by omega)).trans h14)) rfl rfl ?_
    refine A_aload_n (q := 51) X dX5_contract_50 rfl rfl ?_
    refine A_iconst (q := 52) X dX5_contract_51 rfl ?_
    refine A_iload_n (q := 53) X dX5_contract_52 rfl rfl ?_
    refine A_V3v (q := 56) X (c_X6_addRange (i := 0) (j := (k)) hG hT_20 (hT.keep ((hf_21 t (by omega) (by omega)).trans ((hf_11 t (by omega) (by omega) (by omega)).trans rfl)) ((hf_21 ta (by omega) (by omega)).trans ((hf_11 ta (by omega) (by omega) (by omega)).trans rfl))) (by omega) (by omega) (by omega) (by omega) (by omega) (by omega)) mX6_addRange kX5_73 dX5_contract_53 (by omega) hT_20.cell rfl (by decide) (Nat.le_of_ble_eq_true rfl) rfl (fun cq_23 hq_22 => ?_)
    obtain ⟨hT_24, hf_25⟩ := hq_22
    have hx1 := Rs_range (l := S.1) (i := 0) (j := k) hx0 (by omega) (by omega)
    refine A_aload_n (q := 57) X dX5_contract_56 rfl rfl ?_
    refine A_aload_n (q := 58) X dX5_contract_57 rfl rfl ?_
    refine A_iload_n (q := 59) X dX5_contract_58 rfl rfl ?_
    refine A_iconst (q := 60) X dX5_contract_59 rfl ?_
    refine A_iadd (q := 61) X dX5_contract_60 rfl ?_
    refine A_iload_n (q := 62) X dX5_contract_61 rfl rfl ?_
    refine A_iload (q := 64) X dX5_contract_62 rfl rfl ?_
    rw [show ((k : Nat) : Int) + 2 = ((k + 2 : Nat) : Int) by omega]
    refine A_V4v (q := 67) X (c_X5_addContracted (b0 := k + 2) hG hN ((hf_25 _ (by omega) (by omega)).trans ((hf_21 _ (by omega) (by omega)).trans ((hf_11 _ (by omega) (by omega) (by omega)).trans h14))) (hT.keep ((hf_25 t (by omega) (by omega)).trans ((hf_21 t (by omega) (by omega)).trans ((hf_11 t (by omega) (by omega) (by omega)).trans rfl))) ((hf_25 ta (by omega) (by omega)).trans ((hf_21 ta (by omega) (by omega)).trans ((hf_11 ta (by omega) (by omega) (by omega)).trans rfl)))) hgd (hO_8.keep ((hf_25 15 (by omega) (by omega)).trans ((hf_21 15 (by omega) (by omega)).trans rfl)) ((hf_25 16 (by omega) (by omega)).trans ((hf_21 16 (by omega) (by omega)).trans rfl)) ((hf_25 17 (by omega) (by omega)).trans ((hf_21 17 (by omega) (by omega)).trans rfl))) hD_10 (by omega) (by omega) (by omega) (by omega) hT_24 hx1) mX5_addContracted kX5_77 dX5_contract_64 (by omega) ((hf_25 _ (by omega) (by omega)).trans ((hf_21 _ (by omega) (by omega)).trans ((hf_11 _ (by omega) (by omega) (by omega)).trans h14))) rfl (by decide) (Nat.le_of_ble_eq_true rfl) rfl (fun cq_27 hq_26 => ?_)
    obtain ⟨T2, hR2, hx2, hf2⟩ := hq_26
    refine A_aload_n (q := 68) X dX5_contract_67 rfl rfl ?_
    refine A_getf (q := 71) X fX5_24 dX5_contract_68 (by omega) ((hf2 _ (by omega) (by omega)).trans ((hf_25 _ (by omega) (by omega)).trans ((hf_21 _ (by omega) (by omega)).trans ((hf_11 _ (by omega) (by omega) (by omega)).trans h14)))) rfl rfl ?_
    refine A_aload_n (q := 72) X dX5_contract_71 rfl rfl ?_
    refine A_iload (q := 74) X dX5_contract_72 rfl rfl ?_
    refine A_aload_n (q := 75) X dX5_contract_74 rfl rfl ?_
    refine A_V0i (q := 78) X (c_X6_length hG (hT.keep ((hf2 t (by omega) (by omega)).trans ((hf_25 t (by omega) (by omega)).trans ((hf_21 t (by omega) (by omega)).trans ((hf_11 t (by omega) (by omega) (by omega)).trans rfl)))) ((hf2 ta (by omega) (by omega)).trans ((hf_25 ta (by omega) (by omega)).trans ((hf_21 ta (by omega) (by omega)).trans ((hf_11 ta (by omega) (by omega) (by omega)).trans rfl)))))) mX6_length kX5_32 dX5_contract_75 hT.lt (hT.keep ((hf2 t (by omega) (by omega)).trans ((hf_25 t (by omega) (by omega)).trans ((hf_21 t (by omega) (by omega)).trans ((hf_11 t (by omega) (by omega) (by omega)).trans rfl)))) ((hf2 ta (by omega) (by omega)).trans ((hf_25 ta (by omega) (by omega)).trans ((hf_21 ta (by omega) (by omega)).trans ((hf_11 ta (by omega) (by omega) (by omega)).trans rfl))))).cell rfl (by decide) (Nat.le_of_ble_eq_true rfl) rfl (fun vq_30 cq_29 hq_28 => ?_)
    obtain ⟨rfl, hq_28⟩ := hq_28
    obtain rfl := hq_28.symm
    refine A_V3v (q := 81) X (c_X6_addRange (i := ((en S.1 (en S.1 (k + 2))))) (j := (S.1.length)) hG hR2 (hT.keep ((hf2 t (by omega) (by omega)).trans ((hf_25 t (by omega) (by omega)).trans ((hf_21 t (by omega) (by omega)).trans ((hf_11 t (by omega) (by omega) (by omega)).trans rfl)))) ((hf2 ta (by omega) (by omega)).trans ((hf_25 ta (by omega) (by omega)).trans ((hf_21 ta (by omega) (by omega)).trans ((hf_11 ta (by omega) (by omega) (by omega)).trans rfl))))) (by omega) (by omega) (by omega) (by omega) (by omega) (by omega)) mX6_addRange kX5_73 dX5_contract_78 (by omega) hR2.cell rfl (by decide) (Nat.le_of_ble_eq_true rfl) rfl (fun cq_32 hq_31 => ?_)
    obtain ⟨hT_33, hf_34⟩ := hq_31
    have hx3 := Rs_range (l := S.1) (i := en S.1 (en S.1 (k + 2))) (j := S.1.length) hx2 (by omega) (by omega)
    refine A_aload_n (q := 82) X dX5_contract_81 rfl rfl ?_
    refine A_aload_n (q := 83) X dX5_contract_82 rfl rfl ?_
    refine A_V1i (q := 86) X (c_X5_takeResult hG hN ((hf_34 _ (by omega) (by omega)).trans ((hf2 _ (by omega) (by omega)).trans ((hf_25 _ (by omega) (by omega)).trans ((hf_21 _ (by omega) (by omega)).trans ((hf_11 _ (by omega) (by omega) (by omega)).trans h14))))) (hT.keep ((hf_34 t (by omega) (by omega)).trans ((hf2 t (by omega) (by omega)).trans ((hf_25 t (by omega) (by omega)).trans ((hf_21 t (by omega) (by omega)).trans ((hf_11 t (by omega) (by omega) (by omega)).trans rfl))))) ((hf_34 ta (by omega) (by omega)).trans ((hf2 ta (by omega) (by omega)).trans ((hf_25 ta (by omega) (by omega)).trans ((hf_21 ta (by omega) (by omega)).trans ((hf_11 ta (by omega) (by omega) (by omega)).trans rfl)))))) hT_33 (by omega) (by omega)) mX5_takeResult kX5_81 dX5_contract_83 (by omega) ((hf_34 _ (by omega) (by omega)).trans ((hf2 _ (by omega) (by omega)).trans ((hf_25 _ (by omega) (by omega)).trans ((hf_21 _ (by omega) (by omega)).trans ((hf_11 _ (by omega) (by omega) (by omega)).trans h14))))) rfl (by decide) (Nat.le_of_ble_eq_true rfl) rfl (fun vq_37 cq_36 hq_35 => ?_)
    obtain ⟨rfl, hT_38, hf_39⟩ := hq_35
    have hx9 := hx3
    rw [ctr_fin hr] at hx9
    have hRd : Rd G _ := ⟨((hf_39 _ (by omega) (by omega)).trans ((hf_34 _ (by omega) (by omega)).trans ((hf2 _ (by omega) (by omega)).trans ((hf_25 _ (by omega) (by omega)).trans ((hf_21 _ (by omega) (by omega)).trans ((hf_11 _ (by omega) (by omega) (by omega)).trans h14)))))), ⟨_, _, _, (hO_8.keep ((hf_39 15 (by omega) (by omega)).trans ((hf_34 15 (by omega) (by omega)).trans ((hf2 15 (by omega) (by omega)).trans ((hf_25 15 (by omega) (by omega)).trans ((hf_21 15 (by omega) (by omega)).trans rfl))))) ((hf_39 16 (by omega) (by omega)).trans ((hf_34 16 (by omega) (by omega)).trans ((hf2 16 (by omega) (by omega)).trans ((hf_25 16 (by omega) (by omega)).trans ((hf_21 16 (by omega) (by omega)).trans rfl))))) ((hf_39 17 (by omega) (by omega)).trans ((hf_34 17 (by omega) (by omega)).trans ((hf2 17 (by omega) (by omega)).trans ((hf_25 17 (by omega) (by omega)).trans ((hf_21 17 (by omega) (by omega)).trans rfl))))))⟩, ⟨_, _, _, (hO2.keep ((hf_39 18 (by omega) (by omega)).trans ((hf_34 18 (by omega) (by omega)).trans ((hf2 18 (by omega) (by omega)).trans ((hf_25 18 (by omega) (by omega)).trans ((hf_21 18 (by omega) (by omega)).trans ((hf_11 18 (by omega) (by omega) (by omega)).trans rfl)))))) ((hf_39 19 (by omega) (by omega)).trans ((hf_34 19 (by omega) (by omega)).trans ((hf2 19 (by omega) (by omega)).trans ((hf_25 19 (by omega) (by omega)).trans ((hf_21 19 (by omega) (by omega)).trans ((hf_11 19 (by omega) (by omega) (by omega)).trans rfl)))))) ((hf_39 20 (by omega) (by omega)).trans ((hf_34 20 (by omega) (by omega)).trans ((hf2 20 (by omega) (by omega)).trans ((hf_25 20 (by omega) (by omega)).trans ((hf_21 20 (by omega) (by omega)).trans ((hf_11 20 (by omega) (by omega) (by omega)).trans rfl)))))))⟩, _, (hT_33.keep ((hf_39 21 (by omega) (by omega)).trans rfl) ((hf_39 22 (by omega) (by omega)).trans rfl))⟩
    have hf9 : ∀ k, (k < 14 ∨ 22 < k) → k ≠ t → k ≠ ta → _ := (fun k n0 n1 n2 => ((hf_39 k (by omega) (by omega)).trans ((hf_34 k (by omega) (by omega)).trans ((hf2 k (by omega) (by omega)).trans ((hf_25 k (by omega) (by omega)).trans ((hf_21 k (by omega) (by omega)).trans ((hf_11 k (by omega) (by omega) (by omega)).trans rfl)))))))
    have hT9 := hT_38
    have hl9 := hT_33.len
    by_cases q : (tRange T2 S.1 ((en S.1 (en S.1 (k + 2)))) (S.1.length)).2 = 0
    · have e9 := Rs_0 hx9 q
      have el : (ctr S.1 k).length ≤ 200 := by rw [e9] at hl9; exact hl9
      have eo : ctO S.1 ((k : Nat) : Int) = some (ctr S.1 k) := by rw [ctO_rx hr, if_pos el]
      refine A_zreturn X dX5_contract_86 bb_01 ⟨?_, ?_, hRd, hf9⟩
      · rw [if_pos q, eo]; rfl
      · rw [if_pos q, e9] at hT9; rw [eo]; exact hT9
    · have e9 := Rs_1 hx9 q
      have eo : ctO S.1 ((k : Nat) : Int) = none := by rw [ctO_rx hr, if_neg (by omega)]
      refine A_zreturn X dX5_contract_86 bb_01 ⟨?_, ?_, hRd, hf9⟩
      · rw [if_neg q, eo]; rfl
      · rw [if_neg q] at hT9; rw [eo]; show Tm G _ t ta (S.1, 0); rw [show (S.1, (0 : Int)) = S by rw [← hS2]]; exact hT9
  · refine A_iconst (q := 9) X dX5_contract_8 rfl ?_
    exact A_zreturn X dX5_contract_9 (by decide) ⟨zb0 (by rw [ctO_no hb5]; decide), by rw [ctO_no hb5]; show Tm G c t ta (S.1, 0); rw [show (S.1, (0 : Int)) = S by rw [← hS2]]; exact hT, ⟨h14, ⟨_, _, _, hO⟩, ⟨_, _, _, hO2⟩, _, hR⟩, fun _ _ _ _ => rfl⟩
set_option maxRecDepth 100000 in
set_option maxHeartbeats 4000000 in
theorem lp_X5_perform {l : Launch} {G : Gm} {K : Cx} {c0 : HP} {t ta n0 : Nat} {l0 : List Int} {s : Int} (X : Fx l G K cX5_perform 5 RX5 ((some .int)) (rmR 4 106)) (hG : injG G) (hN : G.2.1 = 72) (hs : rg s) (hn0 : n0 ≤ 1000) (x1 : t < 11) (x2 : ta < 11) : ∀ (n : Nat) (i : Nat) (S : List Int × Int) (c : HP), n0 - i < n → i ≤ n0 → Tm G c t ta S → S.2 = 0 → Gd S.1 → runT s n0 l0 = ((runT s (n0 - i) S.1).1, i + (runT s (n0 - i) S.1).2) → Rd G c → (∀ k, (k < 14 ∨ 22 < k) → k ≠ t → k ≠ ta → c k = c0 k) → AW G K (Qi (fun v c' => v = zI ((runT s n0 l0).2 : Nat) ∧ Tm G c' t ta ((runT s n0 l0).1, 0) ∧ Rd G c' ∧ (∀ k, (k < 14 ∨ 22 < k) → k ≠ t → k ≠ ta → c' k = c0 k))) 3 (mkL [some (.ref (G.1 14)), some (.ref (G.1 t)), some (.int (zI s)), some (.int (zI ((n0 : Nat) : Int))), some (.int (zI ((i : Nat) : Int)))]) [] c := by
  intro n
  induction n with
  | zero => intro i S c hmz; exact absurd hmz (Nat.not_lt_zero _)
  | succ n ih =>
    intro i S c hmz hi hT hS2 hgd hrun hRd hf0
    have hlen := hT.len
    refine A_iload (q := 5) X dX5_perform_3 rfl rfl ?_
    refine A_iload_n (q := 6) X dX5_perform_5 rfl rfl ?_
    refine A_icmp_ge (q := 9) (t := 28) X dX5_perform_6 (by omega) (by omega) rfl rfl (fun hb6 => ?_) (fun hb6 => ?_)
    · refine A_iload (q := 30) X dX5_perform_28 rfl rfl ?_
      refine A_ireturn X dX5_perform_30 ⟨?_, ?_, hRd, hf0⟩
      · rw [hrun, show n0 - i = 0 by omega]; show zI _ = zI ((i + 0 : Nat) : Int); rw [Nat.add_zero]
      · rw [hrun, show n0 - i = 0 by omega]; show Tm G c t ta (S.1, 0); rw [show (S.1, (0 : Int)) = S by rw [← hS2]]; exact hT
    · refine A_aload_n (q := 10) X dX5_perform_9 rfl rfl ?_
      refine A_aload_n (q := 11) X dX5_perform_10 rfl rfl ?_
      refine A_aload_n (q := 12) X dX5_perform_11 rfl rfl ?_
      refine A_iload_n (q := 13) X dX5_perform_12 rfl rfl ?_
      refine A_S2i (q := 16) X (c_X5_choose hG hT hgd (by omega)) mX5_choose kX5_57 dX5_perform_13 (by decide) (Nat.le_of_ble_eq_true rfl) rfl (fun vq_3 cq_2 hq_1 => ?_)
      obtain ⟨rfl, hq_1⟩ := hq_1
      obtain rfl := hq_1.symm
      have hch : -10 ≤ chz S.1 s ∧ chz S.1 s ≤ 1000 := by rcases chz_cases S.1 s with h | ⟨k, h1, h2, -⟩ <;> omega
      refine A_V2i (q := 19) X (c_X5_contract hG hN hRd hT hS2 hgd (by omega) (by omega) (by omega)) mX5_contract kX5_60 dX5_perform_16 (by omega) hRd.1 rfl (by decide) (Nat.le_of_ble_eq_true rfl) rfl (fun vq_6 cq_5 hq_4 => ?_)
      obtain ⟨rfl, hT_7, hRd_8, hf_9⟩ := hq_4
      refine A_beq (q := 22) (t := 28) X dX5_perform_19 rfl rfl (fun hb19 => ?_) (fun hb19 => ?_)
      · have hno : ctO S.1 (chz S.1 s) = none := by cases h : ctO S.1 (chz S.1 s) with | none => rfl | some v => rw [h] at hb19; exact absurd rfl hb19
        refine A_iload (q := 30) X dX5_perform_28 rfl rfl ?_
        refine A_ireturn X dX5_perform_30 ⟨?_, ?_, hRd_8, (fun k n0 n1 n2 => (hf_9 k n0 n1 n2).trans (hf0 k n0 n1 n2))⟩
        · rw [hrun, runT_none (by rw [stepT]; exact hno)]; rfl
        · have hT9 := hT_7
          rw [hno] at hT9
          rw [hrun, runT_none (by rw [stepT]; exact hno)]; exact hT9
      · obtain ⟨l1, hl1⟩ : ∃ l1, ctO S.1 (chz S.1 s) = some l1 := Option.isSome_iff_exists.mp hb19
        refine A_iinc (q := 25) X dX5_perform_22 rfl (by decide) (okP_s rfl rfl) rfl ?_
        refine A_goto (q := 3) X dX5_perform_25 rfl ?_
        have hT9 := hT_7
        rw [hl1] at hT9
        refine AW.loc (sS rfl (sS rfl (sS rfl (sS rfl (sZ rfl (by omega) sE))))) (ih (i + 1) (l1, 0) _ (by omega) (by omega) hT9 rfl (Gd_ctO hgd hl1) ?_ hRd_8 (fun k n0 n1 n2 => (hf_9 k n0 n1 n2).trans (hf0 k n0 n1 n2)))
        rw [hrun, show n0 - i = (n0 - (i + 1)) + 1 by omega, runT_some (show stepT s S.1 = some l1 from hl1)]
        show (_, i + (_ + 1)) = (_, i + 1 + _)
        rw [show i + ((runT s (n0 - (i + 1)) l1).2 + 1) = i + 1 + (runT s (n0 - (i + 1)) l1).2 by omega]
set_option maxRecDepth 100000 in
set_option maxHeartbeats 4000000 in
theorem c_X5_perform {l : Launch} {G : Gm} {c : HP} {t ta n0 : Nat} {S : List Int × Int} {s : Int} (hG : injG G) (hN : G.2.1 = 72) (hs : rg s) (hn0 : n0 ≤ 1000) (x1 : t < 11) (x2 : ta < 11) (hRd : Rd G c) (hT : Tm G c t ta S) (hS2 : S.2 = 0) (hgd : Gd S.1) : AMet l G yX5_perform cX5_perform 5 ((some .int)) (rmR 4 106) [.ref (G.1 14), .ref (G.1 t), .int (zI s), .int (zI ((n0 : Nat) : Int))] c (Qi (fun v c' => v = zI ((runT s n0 S.1).2 : Nat) ∧ Tm G c' t ta ((runT s n0 S.1).1, 0) ∧ Rd G c' ∧ (∀ k, (k < 14 ∨ 22 < k) → k ≠ t → k ≠ ta → c' k = c k))) := by
  refine AMet.of (vl := [some (.ref (G.1 14)), some (.ref (G.1 t)), some (.int (zI s)), some (.int (zI ((n0 : Nat) : Int)))]) (by decide) hG (Nat.le_of_ble_eq_true rfl) rfl ?_
  intro K X
  have X : Fx l G K cX5_perform 5 RX5 ((some .int)) (rmR 4 106) := X
  refine A_iconst (q := 1) X dX5_perform_0 rfl ?_
  refine A_istore (q := 3) X dX5_perform_1 (by decide) (okP_s rfl rfl) rfl ?_
  exact AW.loc (sS rfl (sS rfl (sS rfl (sS rfl (sZ rfl (by omega) sE))))) (lp_X5_perform X hG hN hs hn0 x1 x2 _ 0 S c (Nat.lt_succ_self _) (Nat.zero_le _) hT hS2 hgd (by rw [Nat.sub_zero, Nat.zero_add]) hRd (fun _ _ _ _ => rfl))
theorem dp_0 {l : List Int} {c : Nat} (h : One l c) : dp l 0 = 0 := by
  have hp := h.pos
  obtain ⟨ds, e⟩ := h.top hp
  have e : [0] = dp l 0 :: ds := e
  injection e with e1 e2
  exact e1.symm
set_option maxRecDepth 100000 in
set_option maxHeartbeats 4000000 in
theorem lp_X5_replaceFree {l : Launch} {G : Gm} {K : Cx} {c0 c1 : HP} {t ta h2 a2 : Nat} {E D E2 D2 : Nat → Int} {S V : List Int × Int} {j : Int} (X : Fx l G K cX5_replaceFree 7 RX5 ((some .boolean)) (rmR 3 82)) (hG : injG G) (hN : G.2.1 = 72) (h140 : c14 G c1) (hT0 : Tm G c1 t ta S) (hgd : Gd S.1) (hV0 : Tm G c1 h2 a2 V) (hgdV : Gd V.1) (hO0 : Ol G c1 15 16 17 S.1.length E D) (hD : ∀ j, j < S.1.length → D j = (dp S.1 j : Nat)) (hP0 : Ol G c1 18 19 20 V.1.length E2 D2) (hDV : ∀ j, j < V.1.length → D2 j = (dp V.1 j : Nat)) (hj : 0 ≤ j ∧ j ≤ 9) (hS2 : S.2 = 0) (hc1 : ∀ k, (k < 14 ∨ 22 < k) → k ≠ t → k ≠ ta → c1 k = c0 k) (x1 : t < 11) (x2 : ta < 11) (x3 : h2 < 11) (x4 : a2 < 11) (y1 : t ≠ h2) (y2 : t ≠ a2) (y3 : ta ≠ h2) (y4 : ta ≠ a2) : ∀ (n : Nat) (i : Nat) (T : List Int × Int) (c : HP), S.1.length - i < n → i ≤ S.1.length → Tm G c 21 22 T → Rs T (rp (S.1.take i) [0] j V.1) → (∀ k, k ≠ 21 → k ≠ 22 → c k = c1 k) → AW G K (Qi (fun v c' => v = zI (if (rp S.1 [0] j V.1).length ≤ 200 then 1 else 0) ∧ Tm G c' t ta (if (rp S.1 [0] j V.1).length ≤ 200 then ((rp S.1 [0] j V.1), 0) else S) ∧ Rd G c' ∧ (∀ k, (k < 14 ∨ 22 < k) → k ≠ t → k ≠ ta → c' k = c0 k))) 26 (mkL [some (.ref (G.1 14)), some (.ref (G.1 t)), some (.int (zI j)), some (.ref (G.1 h2)), some (.int (zI ((i : Nat) : Int))), none, none]) [] c := by
  intro n
  induction n with
  | zero => intro i T c hmz; exact absurd hmz (Nat.not_lt_zero _)
  | succ n ih =>
    intro i T c hmz hi hR hx hf0
    have h14 := (hf0 14 (by omega) (by omega)).trans h140
    have hT := hT0.keep (hf0 t (by omega) (by omega)) (hf0 ta (by omega) (by omega))
    have hV := hV0.keep (hf0 h2 (by omega) (by omega)) (hf0 a2 (by omega) (by omega))
    have hO := hO0.keep (hf0 15 (by omega) (by omega)) (hf0 16 (by omega) (by omega)) (hf0 17 (by omega) (by omega))
    have hP := hP0.keep (hf0 18 (by omega) (by omega)) (hf0 19 (by omega) (by omega)) (hf0 20 (by omega) (by omega))
    have hlen := hT.len
    have hlenV := hV.len
    have hposV := hgdV.pos
    have hgd2 := hgdV
    have hD2 := hDV
    refine A_iload (q := 28) X dX5_replaceFree_26 rfl rfl ?_
    refine A_aload_n (q := 29) X dX5_replaceFree_28 rfl rfl ?_
    refine A_V0i (q := 32) X (c_X6_length hG hT) mX6_length kX5_32 dX5_replaceFree_29 hT.lt hT.cell rfl (by decide) (Nat.le_of_ble_eq_true rfl) rfl (fun vq_3 cq_2 hq_1 => ?_)
    obtain ⟨rfl, hq_1⟩ := hq_1
    obtain rfl := hq_1.symm
    refine A_icmp_ge (q := 35) (t := 115) X dX5_replaceFree_32 (by omega) (by omega) rfl rfl (fun hb32 => ?_) (fun hb32 => ?_)
    · refine A_aload_n (q := 116) X dX5_replaceFree_115 rfl rfl ?_
      refine A_aload_n (q := 117) X dX5_replaceFree_116 rfl rfl ?_
      refine A_V1i (q := 120) X (c_X5_takeResult hG hN h14 hT hR (by omega) (by omega)) mX5_takeResult kX5_81 dX5_replaceFree_117 (by omega) h14 rfl (by decide) (Nat.le_of_ble_eq_true rfl) rfl (fun vq_6 cq_5 hq_4 => ?_)
      obtain ⟨rfl, hT_7, hf_8⟩ := hq_4
      have hx9 : Rs T (rp S.1 [0] j V.1) := by rw [take_all (by omega)] at hx; exact hx
      have hRd9 : Rd G _ := ⟨((hf_8 _ (by omega) (by omega)).trans h14), ⟨_, _, _, (hO.keep ((hf_8 15 (by omega) (by omega)).trans rfl) ((hf_8 16 (by omega) (by omega)).trans rfl) ((hf_8 17 (by omega) (by omega)).trans rfl))⟩, ⟨_, _, _, (hP.keep ((hf_8 18 (by omega) (by omega)).trans rfl) ((hf_8 19 (by omega) (by omega)).trans rfl) ((hf_8 20 (by omega) (by omega)).trans rfl))⟩, _, (hR.keep ((hf_8 21 (by omega) (by omega)).trans rfl) ((hf_8 22 (by omega) (by omega)).trans rfl))⟩
      have hT9 := hT_7
      have hl9 := hR.len
      by_cases q : T.2 = 0
      · have e9 := Rs_0 hx9 q
        have el : (rp S.1 [0] j V.1).length ≤ 200 := by rw [e9] at hl9; exact hl9
        refine A_zreturn X dX5_replaceFree_120 bb_01 ⟨by rw [if_pos q, if_pos el], ?_, hRd9, (fun k n0 n1 n2 => (hf_8 k n1 n2).trans ((hf0 k (by omega) (by omega)).trans (hc1 k n0 n1 n2)))⟩
        rw [if_pos q, e9] at hT9; rw [if_pos el]; exact hT9
      · have e9 := Rs_1 hx9 q
        refine A_zreturn X dX5_replaceFree_120 bb_01 ⟨by rw [if_neg q, if_neg (by omega)], ?_, hRd9, (fun k n0 n1 n2 => (hf_8 k n1 n2).trans ((hf0 k (by omega) (by omega)).trans (hc1 k n0 n1 n2)))⟩
        rw [if_neg q] at hT9; rw [if_neg (by omega)]; exact hT9
    · refine A_aload_n (q := 36) X dX5_replaceFree_35 rfl rfl ?_
      refine A_getf (q := 39) X fX5_24 dX5_replaceFree_36 (by omega) h14 rfl rfl ?_
      refine A_V0i (q := 42) X (c_X6_isTooLarge hG hR) mX6_isTooLarge kX5_88 dX5_replaceFree_39 (by omega) hR.cell rfl (by decide) (Nat.le_of_ble_eq_true rfl) rfl (fun vq_11 cq_10 hq_9 => ?_)
      obtain ⟨rfl, hq_9⟩ := hq_9
      obtain rfl := hq_9.symm
      have hb01 := hR.b01
      refine A_if_ne (q := 45) (t := 115) X dX5_replaceFree_42 (by omega) rfl rfl (fun hb42 => ?_) (fun hb42 => ?_)
      · refine A_aload_n (q := 116) X dX5_replaceFree_115 rfl rfl ?_
        refine A_aload_n (q := 117) X dX5_replaceFree_116 rfl rfl ?_
        refine A_V1i (q := 120) X (c_X5_takeResult hG hN h14 hT hR (by omega) (by omega)) mX5_takeResult kX5_81 dX5_replaceFree_117 (by omega) h14 rfl (by decide) (Nat.le_of_ble_eq_true rfl) rfl (fun vq_14 cq_13 hq_12 => ?_)
        obtain ⟨rfl, hT_15, hf_16⟩ := hq_12
        have hx9 : Rs T (rp S.1 [0] j V.1) := Rs_big hx (by omega) (by have e0 : (rp S.1 [0] j V.1) = rp (S.1.take i) [0] j V.1 ++ rp (S.1.drop i) (stk (S.1.take i) [0]) j V.1 := (by rw [← rp_app, List.take_append_drop]); rw [e0, List.length_append]; omega)
        have hRd9 : Rd G _ := ⟨((hf_16 _ (by omega) (by omega)).trans h14), ⟨_, _, _, (hO.keep ((hf_16 15 (by omega) (by omega)).trans rfl) ((hf_16 16 (by omega) (by omega)).trans rfl) ((hf_16 17 (by omega) (by omega)).trans rfl))⟩, ⟨_, _, _, (hP.keep ((hf_16 18 (by omega) (by omega)).trans rfl) ((hf_16 19 (by omega) (by omega)).trans rfl) ((hf_16 20 (by omega) (by omega)).trans rfl))⟩, _, (hR.keep ((hf_16 21 (by omega) (by omega)).trans rfl) ((hf_16 22 (by omega) (by omega)).trans rfl))⟩
        have hT9 := hT_15
        have hl9 := hR.len
        by_cases q : T.2 = 0
        · have e9 := Rs_0 hx9 q
          have el : (rp S.1 [0] j V.1).length ≤ 200 := by rw [e9] at hl9; exact hl9
          refine A_zreturn X dX5_replaceFree_120 bb_01 ⟨by rw [if_pos q, if_pos el], ?_, hRd9, (fun k n0 n1 n2 => (hf_16 k n1 n2).trans ((hf0 k (by omega) (by omega)).trans (hc1 k n0 n1 n2)))⟩
          rw [if_pos q, e9] at hT9; rw [if_pos el]; exact hT9
        · have e9 := Rs_1 hx9 q
          refine A_zreturn X dX5_replaceFree_120 bb_01 ⟨by rw [if_neg q, if_neg (by omega)], ?_, hRd9, (fun k n0 n1 n2 => (hf_16 k n1 n2).trans ((hf0 k (by omega) (by omega)).trans (hc1 k n0 n1 n2)))⟩
          rw [if_neg q] at hT9; rw [if_neg (by omega)]; exact hT9
      · refine A_aload_n (q := 46) X dX5_replaceFree_45 rfl rfl ?_
        refine A_iload (q := 48) X dX5_replaceFree_46 rfl rfl ?_
        refine A_V1i (q := 51) X (c_X6_token hG hT (by omega)) mX6_token kX5_28 dX5_replaceFree_48 hT.lt hT.cell rfl (by decide) (Nat.le_of_ble_eq_true rfl) rfl (fun vq_19 cq_18 hq_17 => ?_)
        obtain ⟨rfl, hq_17⟩ := hq_17
        obtain rfl := hq_17.symm
        rw [tokA_in (by omega)]
        have htk := hgd.at (i := i) (by omega)
        have hdl := dp_le S.1 i
        refine A_istore (q := 53) X dX5_replaceFree_51 (by decide) (okP_s rfl rfl) rfl ?_
        refine A_aload_n (q := 54) X dX5_replaceFree_53 rfl rfl ?_
        refine A_getf (q := 57) X fX5_12 dX5_replaceFree_54 (by omega) h14 rfl rfl ?_
        refine A_iload (q := 59) X dX5_replaceFree_57 rfl rfl ?_
        refine A_V1i (q := 62) X (c_X4_depthAt hG hO (by omega)) mX4_depthAt kX5_85 dX5_replaceFree_59 hO.lt hO.cell rfl (by decide) (Nat.le_of_ble_eq_true rfl) rfl (fun vq_22 cq_21 hq_20 => ?_)
        obtain ⟨rfl, hq_20⟩ := hq_20
        obtain rfl := hq_20.symm
        rw [olD_in hD rfl (by omega)]
        refine A_istore (q := 64) X dX5_replaceFree_62 (by decide) (okP_s rfl rfl) rfl ?_
        refine A_iload (q := 66) X dX5_replaceFree_64 rfl rfl ?_
        refine A_N1i (q := 69) X (c_X8_isVariable hG (by omega)) mX8_isVariable (by decide +kernel) dX5_replaceFree_66 (by decide) (Nat.le_of_ble_eq_true rfl) rfl (fun vq_25 cq_24 hq_23 => ?_)
        obtain ⟨rfl, hq_23⟩ := hq_23
        obtain rfl := hq_23.symm
        refine A_beq (q := 72) (t := 100) X dX5_replaceFree_69 rfl rfl (fun hb69 => ?_) (fun hb69 => ?_)
        · refine A_aload_n (q := 101) X dX5_replaceFree_100 rfl rfl ?_
          refine A_getf (q := 104) X fX5_24 dX5_replaceFree_101 (by omega) h14 rfl rfl ?_
          refine A_iload (q := 106) X dX5_replaceFree_104 rfl rfl ?_
          refine A_V1v (q := 109) X (c_X6_add (t := (S.1.getD i 0)) hG hR) mX6_add kX5_96 dX5_replaceFree_106 (by omega) hR.cell rfl (by decide) (Nat.le_of_ble_eq_true rfl) rfl (fun cq_27 hq_26 => ?_)
          obtain ⟨hT_28, hf_29⟩ := hq_26
          refine A_iinc (q := 112) X dX5_replaceFree_109 rfl (by decide) (okP_s rfl rfl) rfl ?_
          refine A_goto (q := 26) X dX5_replaceFree_112 rfl ?_
          refine AW.loc (sS rfl (sS rfl (sS rfl (sS rfl (sZ rfl (by omega) (sN (sN sE))))))) (ih (i + 1) _ _ (by omega) (by omega) hT_28 ?_ (fun k n0 n1 => (hf_29 k n0 n1).trans (hf0 k n0 n1)))
          rw [rp_take hgd.one (by omega)]
          have eS : pcr (S.1.getD i 0) (dp S.1 i) j V.1 = [S.1.getD i 0] := by unfold pcr; rw [if_neg (by omega)]
          rw [eS]
          exact Rs_add _ hx hR.len
        · refine A_iload (q := 74) X dX5_replaceFree_72 rfl rfl ?_
          refine A_iload (q := 76) X dX5_replaceFree_74 rfl rfl ?_
          refine A_isub (q := 77) X dX5_replaceFree_76 rfl ?_
          refine A_iload_n (q := 78) X dX5_replaceFree_77 rfl rfl ?_
          refine A_icmp_ne (q := 81) (t := 100) X dX5_replaceFree_78 (by omega) (by omega) rfl rfl (fun hb78 => ?_) (fun hb78 => ?_)
          · refine A_aload_n (q := 101) X dX5_replaceFree_100 rfl rfl ?_
            refine A_getf (q := 104) X fX5_24 dX5_replaceFree_101 (by omega) h14 rfl rfl ?_
            refine A_iload (q := 106) X dX5_replaceFree_104 rfl rfl ?_
            refine A_V1v (q := 109) X (c_X6_add (t := (S.1.getD i 0)) hG hR) mX6_add kX5_96 dX5_replaceFree_106 (by omega) hR.cell rfl (by decide) (Nat.le_of_ble_eq_true rfl) rfl (fun cq_31 hq_30 => ?_)
            obtain ⟨hT_32, hf_33⟩ := hq_30
            refine A_iinc (q := 112) X dX5_replaceFree_109 rfl (by decide) (okP_s rfl rfl) rfl ?_
            refine A_goto (q := 26) X dX5_replaceFree_112 rfl ?_
            refine AW.loc (sS rfl (sS rfl (sS rfl (sS rfl (sZ rfl (by omega) (sN (sN sE))))))) (ih (i + 1) _ _ (by omega) (by omega) hT_32 ?_ (fun k n0 n1 => (hf_33 k n0 n1).trans (hf0 k n0 n1)))
            rw [rp_take hgd.one (by omega)]
            have eS : pcr (S.1.getD i 0) (dp S.1 i) j V.1 = [S.1.getD i 0] := by unfold pcr; rw [if_neg (by omega)]
            rw [eS]
            exact Rs_add _ hx hR.len
          · refine A_aload_n (q := 82) X dX5_replaceFree_81 rfl rfl ?_
            refine A_aload_n (q := 83) X dX5_replaceFree_82 rfl rfl ?_
            refine A_aload_n (q := 84) X dX5_replaceFree_83 rfl rfl ?_
            refine A_getf (q := 87) X fX5_18 dX5_replaceFree_84 (by omega) h14 rfl rfl ?_
            refine A_iconst (q := 88) X dX5_replaceFree_87 rfl ?_
            refine A_aload_n (q := 89) X dX5_replaceFree_88 rfl rfl ?_
            refine A_V0i (q := 92) X (c_X6_length hG hV) mX6_length kX5_32 dX5_replaceFree_89 hV.lt hV.cell rfl (by decide) (Nat.le_of_ble_eq_true rfl) rfl (fun vq_36 cq_35 hq_34 => ?_)
            obtain ⟨rfl, hq_34⟩ := hq_34
            obtain rfl := hq_34.symm
            refine A_iload (q := 94) X dX5_replaceFree_92 rfl rfl ?_
            rw [show ((V.1.length : Nat) : Int) = ((0 + V.1.length : Nat) : Int) by omega]
            refine A_V5v (q := 97) X (c_X5_addShifted (s := 0) (k := ((dp S.1 i))) (u := V.1) (x := rp (S.1.take i) [0] j V.1) hG hN h14 hV hgd2 hP hD2 hgdV.one (by omega) (fun i hi => by rw [Nat.zero_add]) (fun i hi => by rw [Nat.zero_add, dp_0 hgdV.one, Nat.zero_add]) (by omega) (by omega) (by omega) (by omega) (by omega) (by omega) hR hx) mX5_addShifted kX5_100 dX5_replaceFree_94 (by omega) h14 rfl (by decide) (Nat.le_of_ble_eq_true rfl) rfl (fun cq_38 hq_37 => ?_)
            obtain ⟨T_39, hR_40, hx_41, hf_42⟩ := hq_37
            refine A_goto (q := 109) X dX5_replaceFree_97 rfl ?_
            refine A_iinc (q := 112) X dX5_replaceFree_109 rfl (by decide) (okP_s rfl rfl) rfl ?_
            refine A_goto (q := 26) X dX5_replaceFree_112 rfl ?_
            refine AW.loc (sS rfl (sS rfl (sS rfl (sS rfl (sZ rfl (by omega) (sN (sN sE))))))) (ih (i + 1) _ _ (by omega) (by omega) hR_40 ?_ (fun k n0 n1 => (hf_42 k n0 n1).trans (hf0 k n0 n1)))
            rw [rp_take hgd.one (by omega)]
            have eS : pcr (S.1.getD i 0) (dp S.1 i) j V.1 = shf V.1 [0] (dp S.1 i) := by unfold pcr; rw [if_pos (by omega)]
            rw [eS]
            exact hx_41
set_option maxRecDepth 100000 in
set_option maxHeartbeats 4000000 in
theorem c_X5_replaceFree {l : Launch} {G : Gm} {c : HP} {t ta h2 a2 : Nat} {S V : List Int × Int} {j : Int} (hG : injG G) (hN : G.2.1 = 72) (hRd0 : Rd G c) (hT : Tm G c t ta S) (hS2 : S.2 = 0) (hgd : Gd S.1) (hV : Tm G c h2 a2 V) (hgdV : Gd V.1) (hj : 0 ≤ j ∧ j ≤ 9) (x1 : t < 11) (x2 : ta < 11) (x3 : h2 < 11) (x4 : a2 < 11) (y1 : t ≠ h2) (y2 : t ≠ a2) (y3 : ta ≠ h2) (y4 : ta ≠ a2) : AMet l G yX5_replaceFree cX5_replaceFree 7 ((some .boolean)) (rmR 3 82) [.ref (G.1 14), .ref (G.1 t), .int (zI j), .ref (G.1 h2)] c (Qi (fun v c' => v = zI (if (rp S.1 [0] j V.1).length ≤ 200 then 1 else 0) ∧ Tm G c' t ta (if (rp S.1 [0] j V.1).length ≤ 200 then ((rp S.1 [0] j V.1), 0) else S) ∧ Rd G c' ∧ (∀ k, (k < 14 ∨ 22 < k) → k ≠ t → k ≠ ta → c' k = c k))) := by
  refine AMet.of (vl := [some (.ref (G.1 14)), some (.ref (G.1 t)), some (.int (zI j)), some (.ref (G.1 h2))]) (by decide) hG (Nat.le_of_ble_eq_true rfl) rfl ?_
  intro K X
  have X : Fx l G K cX5_replaceFree 7 RX5 ((some .boolean)) (rmR 3 82) := X
  obtain ⟨h14, ⟨n1, E1, D1, hO⟩, ⟨n2, E2, D2, hO2⟩, T0, hR⟩ := hRd0
  have hlen := hT.len
  have hlenV := hV.len
  refine A_aload_n (q := 1) X dX5_replaceFree_0 rfl rfl ?_
  refine A_getf (q := 4) X fX5_12 dX5_replaceFree_1 (by omega) h14 rfl rfl ?_
  refine A_aload_n (q := 5) X dX5_replaceFree_4 rfl rfl ?_
  refine A_V1v (q := 8) X (c_X4_measure hG hgd (by omega) (by omega) (by omega) (by omega) (by omega) (by omega) hT hO) mX4_measure kX5_63 dX5_replaceFree_5 hO.lt hO.cell rfl (by decide) (Nat.le_of_ble_eq_true rfl) rfl (fun cq_2 hq_1 => ?_)
  obtain ⟨E_3, D_4, hO_5, hE_6, hD_7, hf_8⟩ := hq_1
  refine A_aload_n (q := 9) X dX5_replaceFree_8 rfl rfl ?_
  refine A_getf (q := 12) X fX5_18 dX5_replaceFree_9 (by omega) ((hf_8 _ (by omega) (by omega) (by omega)).trans h14) rfl rfl ?_
  refine A_aload_n (q := 13) X dX5_replaceFree_12 rfl rfl ?_
  refine A_V1v (q := 16) X (c_X4_measure hG hgdV (by omega) (by omega) (by omega) (by omega) (by omega) (by omega) (hV.keep ((hf_8 h2 (by omega) (by omega) (by omega)).trans rfl) ((hf_8 a2 (by omega) (by omega) (by omega)).trans rfl)) (hO2.keep ((hf_8 18 (by omega) (by omega) (by omega)).trans rfl) ((hf_8 19 (by omega) (by omega) (by omega)).trans rfl) ((hf_8 20 (by omega) (by omega) (by omega)).trans rfl))) mX4_measure kX5_63 dX5_replaceFree_13 hO2.lt (hO2.keep ((hf_8 18 (by omega) (by omega) (by omega)).trans rfl) ((hf_8 19 (by omega) (by omega) (by omega)).trans rfl) ((hf_8 20 (by omega) (by omega) (by omega)).trans rfl)).cell rfl (by decide) (Nat.le_of_ble_eq_true rfl) rfl (fun cq_10 hq_9 => ?_)
  obtain ⟨E_11, D_12, hO_13, hE_14, hD_15, hf_16⟩ := hq_9
  refine A_aload_n (q := 17) X dX5_replaceFree_16 rfl rfl ?_
  refine A_getf (q := 20) X fX5_24 dX5_replaceFree_17 (by omega) ((hf_16 _ (by omega) (by omega) (by omega)).trans ((hf_8 _ (by omega) (by omega) (by omega)).trans h14)) rfl rfl ?_
  refine A_V0v (q := 23) X (c_X6_clear hG (hR.keep ((hf_16 21 (by omega) (by omega) (by omega)).trans ((hf_8 21 (by omega) (by omega) (by omega)).trans rfl)) ((hf_16 22 (by omega) (by omega) (by omega)).trans ((hf_8 22 (by omega) (by omega) (by omega)).trans rfl)))) mX6_clear kX5_70 dX5_replaceFree_20 (by omega) (hR.keep ((hf_16 21 (by omega) (by omega) (by omega)).trans ((hf_8 21 (by omega) (by omega) (by omega)).trans rfl)) ((hf_16 22 (by omega) (by omega) (by omega)).trans ((hf_8 22 (by omega) (by omega) (by omega)).trans rfl))).cell rfl (by decide) (Nat.le_of_ble_eq_true rfl) rfl (fun cq_18 hq_17 => ?_)
  obtain ⟨hT_19, hf_20⟩ := hq_17
  refine A_iconst (q := 24) X dX5_replaceFree_23 rfl ?_
  refine A_istore (q := 26) X dX5_replaceFree_24 (by decide) (okP_s rfl rfl) rfl ?_
  exact AW.loc (sS rfl (sS rfl (sS rfl (sS rfl (sZ rfl (by omega) (sN (sN sE))))))) (lp_X5_replaceFree X hG hN ((hf_20 _ (by omega) (by omega)).trans ((hf_16 _ (by omega) (by omega) (by omega)).trans ((hf_8 _ (by omega) (by omega) (by omega)).trans h14))) (hT.keep ((hf_20 t (by omega) (by omega)).trans ((hf_16 t (by omega) (by omega) (by omega)).trans ((hf_8 t (by omega) (by omega) (by omega)).trans rfl))) ((hf_20 ta (by omega) (by omega)).trans ((hf_16 ta (by omega) (by omega) (by omega)).trans ((hf_8 ta (by omega) (by omega) (by omega)).trans rfl)))) hgd (hV.keep ((hf_20 h2 (by omega) (by omega)).trans ((hf_16 h2 (by omega) (by omega) (by omega)).trans ((hf_8 h2 (by omega) (by omega) (by omega)).trans rfl))) ((hf_20 a2 (by omega) (by omega)).trans ((hf_16 a2 (by omega) (by omega) (by omega)).trans ((hf_8 a2 (by omega) (by omega) (by omega)).trans rfl)))) hgdV (hO_5.keep ((hf_20 15 (by omega) (by omega)).trans ((hf_16 15 (by omega) (by omega) (by omega)).trans rfl)) ((hf_20 16 (by omega) (by omega)).trans ((hf_16 16 (by omega) (by omega) (by omega)).trans rfl)) ((hf_20 17 (by omega) (by omega)).trans ((hf_16 17 (by omega) (by omega) (by omega)).trans rfl))) hD_7 (hO_13.keep ((hf_20 18 (by omega) (by omega)).trans rfl) ((hf_20 19 (by omega) (by omega)).trans rfl) ((hf_20 20 (by omega) (by omega)).trans rfl)) hD_15 hj hS2 (fun k n0 n1 n2 => ((hf_20 k (by omega) (by omega)).trans ((hf_16 k (by omega) (by omega) (by omega)).trans ((hf_8 k (by omega) (by omega) (by omega)).trans rfl)))) x1 x2 x3 x4 y1 y2 y3 y4 _ 0 _ _ (Nat.lt_succ_self _) (Nat.zero_le _) hT_19 (Or.inl ⟨rfl, by rw [List.take_zero]; rfl⟩) (fun _ _ _ => rfl))
