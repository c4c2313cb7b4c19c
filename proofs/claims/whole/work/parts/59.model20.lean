/-! THE MODEL's calls: load, observations -/
theorem erf_ok : ∀ (x : List Int) (n i : Nat), erf x n i = -9 → ∀ t ∈ x, tkc t ≠ -1
  | [], _, _, _, t, ht => absurd ht List.not_mem_nil
  | c :: r, n, i, h, t, ht => by
    unfold erf at h
    split at h
    · omega
    · rename_i hn
      rcases List.mem_cons.mp ht with e | e
      · rw [e]; exact fun z => hn (Or.inr z)
      · exact erf_ok r _ _ h t e
theorem getD_mapT {x : List Int} {k : Nat} (h : k < x.length) : (x.map tkc).getD k 0 = tkc (x.getD k 0) := by
  rw [List.getD_eq_getElem?_getD, List.getElem?_map, List.getD_eq_getElem?_getD, List.getElem?_eq_getElem h]; rfl
theorem obA_ok {o : List (Int × Int)} {q : Int × Int} (hl : o.length ≤ 6) (hor : ∀ q ∈ o, (0 ≤ q.1 ∧ q.1 ≤ 50) ∧ 1 ≤ q.2 ∧ q.2 ≤ 200) (hq : (0 ≤ q.1 ∧ q.1 ≤ 50) ∧ 1 ≤ q.2 ∧ q.2 ≤ 200) : (obA o q).length ≤ 6 ∧ ∀ q' ∈ obA o q, (0 ≤ q'.1 ∧ q'.1 ≤ 50) ∧ 1 ≤ q'.2 ∧ q'.2 ≤ 200 := by
  unfold obA
  split
  · refine ⟨by rw [List.length_append, List.length_singleton]; omega, fun y hy => ?_⟩
    rcases List.mem_append.mp hy with z | z
    · exact hor y z
    · rw [List.mem_singleton.mp z]; exact hq
  · refine ⟨by rw [List.length_append, List.length_drop, List.length_singleton]; omega, fun y hy => ?_⟩
    rcases List.mem_append.mp hy with z | z
    · exact hor y (List.mem_of_mem_drop z)
    · rw [List.mem_singleton.mp z]; exact hq
set_option maxRecDepth 100000 in
set_option maxHeartbeats 4000000 in
theorem lp_X9_load {l : Launch} {G : Gm} {K : Cx} {c0 : HP} {x : List Int} {FX U : Nat → Int} {th rmb obn tw pk : Int} {sd : Int64} (X : Fx l G K cX9_load 2 RX9 ((some .int)) (rmR 3 68)) (hG : injG G) (hN : G.2.1 = 72) (h055 : c0 55 = ob9 G th ((x.length : Nat) : Int) rmb obn sd tw pk) (hxl : x.length ≤ 60) (hxv : ∀ t ∈ x, 0 ≤ t ∧ t ≤ 255) (h056 : c0 56 = aI G 60 FX) (hFX : ∀ k, k < x.length → FX k = x.getD k 0) (h063 : c0 63 = aZ G 2 U) (hok : ∀ t ∈ x, tkc t ≠ -1) : ∀ (n : Nat) (i : Nat) (H : Nat → Int) (c : HP), x.length - i < n → i ≤ x.length → c 57 = aI G 201 H → (∀ k, k < i → H k = tkc (x.getD k 0)) → (∀ k, k ≠ 57 → c k = c0 k) → AW G K (Qi (fun v c' => v = zI ((x.length : Nat) : Int) ∧ c' 55 = ob9 G th ((x.length : Nat) : Int) 0 obn sd tw pk ∧ Mt G c' 57 (x.map tkc) ∧ (∃ U', c' 63 = aZ G 2 U' ∧ U' 0 = 0 ∧ U' 1 = 0) ∧ (∀ k, k ≠ 55 → k ≠ 57 → k ≠ 63 → c' k = c0 k))) 19 (mkL [some (.ref (G.1 55)), some (.int (zI ((i : Nat) : Int)))]) [] c := by
  intro n
  induction n with
  | zero => intro i H c hmz; exact absurd hmz (Nat.not_lt_zero _)
  | succ n ih =>
    intro i H c hmz hi h57 hH hf0
    have h55 := (hf0 55 (by decide)).trans h055
    have h56 := (hf0 56 (by decide)).trans h056
    have h63 := (hf0 63 (by decide)).trans h063
    refine A_iload_n (q := 20) X dX9_load_19 rfl rfl ?_
    refine A_aload_n (q := 21) X dX9_load_20 rfl rfl ?_
    refine A_getf (q := 24) X fX9_118 dX9_load_21 (by omega) h55 rfl rfl ?_
    refine A_icmp_ge (q := 27) (t := 48) X dX9_load_24 (by omega) (by omega) rfl rfl (fun hb24 => ?_) (fun hb24 => ?_)
    · refine A_aload_n (q := 49) X dX9_load_48 rfl rfl ?_
      refine A_getf (q := 52) X fX9_13 dX9_load_49 (by omega) h55 rfl rfl ?_
      refine A_sipush (q := 55) X dX9_load_52 (by decide) rfl ?_
      refine A_aload_n (q := 56) X dX9_load_55 rfl rfl ?_
      refine A_getf (q := 59) X fX9_118 dX9_load_56 (by omega) h55 rfl rfl ?_
      refine A_iast (q := 60) (h := 57) 200 X dX9_load_59 (by omega) h57 (by omega) (by omega) (by decide) rfl ?_
      refine A_aload_n (q := 61) X dX9_load_60 rfl rfl ?_
      refine A_iconst (q := 62) X dX9_load_61 rfl ?_
      refine A_putf (q := 65) X pX9_132 dX9_load_62 (by omega) (lk_ne (by omega) h55) (Nat.le_of_ble_eq_true rfl) rfl rfl rfl ?_
      refine A_aload_n (q := 66) X dX9_load_65 rfl rfl ?_
      refine A_getf (q := 69) X fX9_31 dX9_load_66 (by omega) lk_eq rfl rfl ?_
      refine A_iconst (q := 70) X dX9_load_69 rfl ?_
      refine A_iconst (q := 71) X dX9_load_70 rfl ?_
      refine A_zast (q := 72) (h := 63) 0 X dX9_load_71 (by omega) (lk_ne (by omega) (lk_ne (by omega) h63)) (by omega) (by omega) (by decide) (Or.inl rfl) rfl ?_
      refine A_aload_n (q := 73) X dX9_load_72 rfl rfl ?_
      refine A_getf (q := 76) X fX9_31 dX9_load_73 (by omega) (lk_ne (by omega) lk_eq) rfl rfl ?_
      refine A_iconst (q := 77) X dX9_load_76 rfl ?_
      refine A_iconst (q := 78) X dX9_load_77 rfl ?_
      refine A_zast (q := 79) (h := 63) 1 X dX9_load_78 (by omega) lk_eq (by omega) (by omega) (by decide) (Or.inl rfl) rfl ?_
      refine A_aload_n (q := 80) X dX9_load_79 rfl rfl ?_
      refine A_getf (q := 83) X fX9_118 dX9_load_80 (by omega) (lk_ne (by omega) (lk_ne (by omega) lk_eq)) rfl rfl ?_
      have ei : i = x.length := by omega
      subst ei
      exact A_ireturn X dX9_load_83 ⟨rfl, (lk_ne (by omega) (lk_ne (by omega) lk_eq)), ⟨by omega, by rw [List.length_map]; omega, _, (lk_ne (by omega) (lk_ne (by omega) (lk_ne (by omega) lk_eq))), lk_eq.trans (by rw [List.length_map]), fun k hk => lk_ne (by rw [List.length_map] at hk; omega) (by rw [List.length_map] at hk; rw [getD_mapT hk]; exact hH k hk)⟩, ⟨_, lk_eq, lk_ne (by decide) lk_eq, lk_eq⟩, fun k n0 n1 n2 => (lk_ne (by omega) (lk_ne (by omega) (lk_ne (by omega) (lk_ne (by omega) (hf0 k n1)))))⟩
    · have hil : i < x.length := by omega
      have hxb := hxv _ (mem_getD hil)
      have htk : tk9 (x.getD i 0) = tkc (x.getD i 0) := ((tk9_tkc _).2 (fun z => hok _ (mem_getD hil) ((tk9_tkc _).1.mp z))).1
      refine A_aload_n (q := 28) X dX9_load_27 rfl rfl ?_
      refine A_getf (q := 31) X fX9_13 dX9_load_28 (by omega) h55 rfl rfl ?_
      refine A_iload_n (q := 32) X dX9_load_31 rfl rfl ?_
      refine A_aload_n (q := 33) X dX9_load_32 rfl rfl ?_
      refine A_getf (q := 36) X fX9_7 dX9_load_33 (by omega) h55 rfl rfl ?_
      refine A_iload_n (q := 37) X dX9_load_36 rfl rfl ?_
      refine A_iald (q := 38) (h := 56) (i) X dX9_load_37 (by omega) h56 (by omega) (by omega) (by decide) rfl ?_
      rw [hFX i hil]
      refine A_S1i (q := 41) X (c_X9_tokenOf hG (by omega)) mX9_tokenOf kX9_125 dX9_load_38 (by decide) (Nat.le_of_ble_eq_true rfl) rfl (fun vq_3 cq_2 hq_1 => ?_)
      obtain ⟨rfl, hq_1⟩ := hq_1
      obtain rfl := hq_1.symm
      refine A_iast (q := 42) (h := 57) (i) X dX9_load_41 (by omega) h57 (by omega) (by omega) (by decide) rfl ?_
      refine A_iinc (q := 45) X dX9_load_42 rfl (by decide) (okP_s rfl rfl) rfl ?_
      refine A_goto (q := 19) X dX9_load_45 rfl ?_
      exact AW.loc (sS rfl (sZ rfl (by omega) sE)) (ih (i + 1) _ _ (by omega) (by omega) (lk_eq) (fun k hk => by by_cases e : k = i; (subst e; exact lk_eq.trans htk); exact lk_ne e (hH k (by omega))) (fun k n0 => lk_ne n0 (hf0 k n0)))
set_option maxRecDepth 100000 in
set_option maxHeartbeats 4000000 in
theorem c_X9_load {l : Launch} {G : Gm} {c : HP} {tm x : List Int} {hs : List (List Int)} {s0 s1 : List Int} {o : List (Int × Int)} {sd : Int64} (hG : injG G) (hW : WM G c (tm, x, hs, s0, s1, o, sd)) : AMet l G yX9_load cX9_load 2 ((some .int)) (rmR 3 68) [.ref (G.1 55)] c (Qi (fun v c' => v = zI (fLoad (tm, x, hs, s0, s1, o, sd)).1 ∧ WM G c' (fLoad (tm, x, hs, s0, s1, o, sd)).2 ∧ (∀ k, k < 55 → c' k = c k))) := by
  refine AMet.of (vl := [some (.ref (G.1 55))]) (by decide) hG (Nat.le_of_ble_eq_true rfl) rfl ?_
  intro K X
  have X : Fx l G K cX9_load 2 RX9 ((some .int)) (rmR 3 68) := X
  obtain ⟨hN, ⟨th, tw, pk, h55, htw⟩, hX, hT, hgd, hR8, hR9, hO, hH, hV, hB, hSc, hWd⟩ := hW
  dsimp only at h55 hX hT hgd hH hV hB
  have hl0 := hT.len
  have hxl := hX.1
  have hhl := hH.1
  have hol := hB.1
  refine A_aload_n (q := 1) X dX9_load_0 rfl rfl ?_
  refine A_iconst (q := 2) X dX9_load_1 rfl ?_
  refine A_putf (q := 5) X pX9_59 dX9_load_2 (by omega) h55 (Nat.le_of_ble_eq_true rfl) rfl rfl rfl ?_
  refine A_aload_n (q := 6) X dX9_load_5 rfl rfl ?_
  refine A_V0i (q := 9) X (c_X9_errorPosition (tm := tm) (x := x) (hs := hs) (s0 := s0) (s1 := s1) (o := o) (sd := sd) hG ⟨hN, ⟨_, _, _, lk_eq, htw⟩, (hX.keep (lk_ne (by omega) rfl)), (hT.keep (lk_ne (by omega) rfl)), hgd, (hR8.keep (lk_ne (by omega) rfl)), (hR9.keep (lk_ne (by omega) rfl)), (hO.keep (lk_ne (by omega) rfl)), (hH.keep (lk_ne (by omega) rfl)), (hV.keep (lk_ne (by omega) rfl) (lk_ne (by omega) rfl)), (hB.keep (lk_ne (by omega) rfl) (lk_ne (by omega) rfl)), (hSc.keep (lk_ne (by omega) rfl) (lk_ne (by omega) rfl) (lk_ne (by omega) rfl)), (hWd.keep (lk_ne (by omega) rfl) (lk_ne (by omega) rfl) (lk_ne (by omega) rfl))⟩) mX9_errorPosition kX9_128 dX9_load_6 (by omega) lk_eq rfl (by decide) (Nat.le_of_ble_eq_true rfl) rfl (fun vq_3 cq_2 hq_1 => ?_)
  obtain ⟨hve, hW2, hfe⟩ := hq_1
  have hve : vq_3 = zI (erf x 1 0) := hve
  subst hve
  have hW2 : WM G cq_2 (tm, x, hs, s0, s1, o, sd) := hW2
  have herg := erf_rg x 1 0
  refine A_bipush (q := 11) X dX9_load_9 (by decide) rfl ?_
  refine A_icmp_eq (q := 14) (t := 17) X dX9_load_11 (by omega) (by decide) rfl rfl (fun hb11 => ?_) (fun hb11 => ?_)
  · obtain ⟨-, ⟨th2, tw2, pk2, h552, htw2⟩, hX2, hT2, -, hR82, hR92, hO2, hH2, hV2, hB2, hSc2, hWd2⟩ := hW2
    dsimp only at h552 hX2 hT2 hH2 hV2 hB2
    obtain ⟨-, hxv, FX, h562, hFX⟩ := (id hX2 : Tx9 G _ x)
    obtain ⟨-, -, F2, h572, -, -⟩ := (id hT2 : Mt G _ 57 tm)
    obtain ⟨FS, U, h622, h632, -, -⟩ := (id hV2 : Sl9 G _ s0 s1)
    obtain ⟨-, -, FH, h612, -⟩ := (id hH2 : Hs9 G _ hs)
    refine A_iconst (q := 18) X dX9_load_17 rfl ?_
    refine A_istore_n (q := 19) X dX9_load_18 (by decide) (okP_s rfl rfl) rfl ?_
    refine AW.loc (sS rfl (sZ rfl rfl sE)) (AW.mono (lp_X9_load (x := x) X hG hN (h552) hxl hxv (h562) hFX (h632) (erf_ok x 1 0 hb11) _ 0 _ _ (Nat.lt_succ_self _) (Nat.zero_le _) (h572) (fun k hk => absurd hk (Nat.not_lt_zero _)) (fun _ _ => rfl)) ?_)
    rintro r c9 ⟨v9, hv9, rfl, h559, hT9, ⟨U9, h639, hu0, hu1⟩, hf9⟩
    have hV9 : Sl9 G c9 [] [] := ⟨FS, U9, (hf9 62 (by decide) (by decide) (by decide)).trans h622, h639, ⟨by rw [if_pos rfl]; exact hu0, fun q => absurd rfl q, Or.inl rfl⟩, ⟨by rw [if_pos rfl]; exact hu1, fun q => absurd rfl q, Or.inl rfl⟩⟩
    have hH9 : Hs9 G c9 [] := ⟨by decide, fun t ht => absurd ht (List.not_mem_nil), FH, (hf9 61 (by decide) (by decide) (by decide)).trans h612, trivial⟩
    have e9 : fLoad (tm, x, hs, s0, s1, o, sd) = (((x.length : Nat) : Int), ((x.map tkc), x, [], [], [], o, sd)) := by unfold fLoad; dsimp only; rw [if_pos hb11]
    exact ⟨_, hv9, by rw [e9], by rw [e9]; exact ⟨hN, ⟨_, _, _, h559, htw2⟩, (hX2.keep ((hf9 56 (by omega) (by omega) (by omega)).trans rfl)), hT9, (Gd_text hb11 hxl), (hR82.keep ((hf9 58 (by omega) (by omega) (by omega)).trans rfl)), (hR92.keep ((hf9 59 (by omega) (by omega) (by omega)).trans rfl)), (hO2.keep ((hf9 60 (by omega) (by omega) (by omega)).trans rfl)), hH9, hV9, (hB2.keep ((hf9 64 (by omega) (by omega) (by omega)).trans rfl) ((hf9 65 (by omega) (by omega) (by omega)).trans rfl)), (hSc2.keep ((hf9 66 (by omega) (by omega) (by omega)).trans rfl) ((hf9 67 (by omega) (by omega) (by omega)).trans rfl) ((hf9 68 (by omega) (by omega) (by omega)).trans rfl)), (hWd2.keep ((hf9 69 (by omega) (by omega) (by omega)).trans rfl) ((hf9 70 (by omega) (by omega) (by omega)).trans rfl) ((hf9 71 (by omega) (by omega) (by omega)).trans rfl))⟩, (fun k n0 => ((hf9 k (by omega) (by omega) (by omega)).trans ((hfe k (by omega)).trans (lk_ne (by omega) rfl))))⟩
  · refine A_bipush (q := 16) X dX9_load_14 (by decide) rfl ?_
    have e9 : fLoad (tm, x, hs, s0, s1, o, sd) = (-3, (tm, x, hs, s0, s1, o, sd)) := by unfold fLoad; dsimp only; rw [if_neg hb11]
    exact A_ireturn X dX9_load_16 ⟨by rw [e9], by rw [e9]; exact hW2, (fun k n0 => ((hfe k (by omega)).trans (lk_ne (by omega) rfl)))⟩
set_option maxRecDepth 100000 in
set_option maxHeartbeats 4000000 in
theorem tl_X9_observe {l : Launch} {G : Gm} {K : Cx} {c0 : HP} {o1 : List (Int × Int)} {n1 v1 : Int} {F V : Nat → Int} {th ts rmb tw pk : Int} {sd : Int64} (X : Fx l G K cX9_observe 4 RX9 ((some .int)) (rmR 1 25)) (hG : injG G) (hN : G.2.1 = 72) (h55 : c0 55 = ob9 G th ts rmb ((o1.length : Nat) : Int) sd tw pk) (h64 : c0 64 = aI G 6 F) (h65 : c0 65 = aI G 6 V) (hFV : ∀ k, k < o1.length → o1.getD k (0, 0) = (F k, V k)) (ho5 : o1.length < 6) : AW G K (Qi (fun v c' => v = zI ((((o1 ++ [(n1, v1)])).length : Nat) : Int) ∧ c' 55 = ob9 G th ts rmb ((((o1 ++ [(n1, v1)])).length : Nat) : Int) sd tw pk ∧ (∃ F' V' : Nat → Int, c' 64 = aI G 6 F' ∧ c' 65 = aI G 6 V' ∧ ∀ k, k < ((o1 ++ [(n1, v1)])).length → ((o1 ++ [(n1, v1)])).getD k (0, 0) = (F' k, V' k)) ∧ (∀ k, k ≠ 55 → k ≠ 64 → k ≠ 65 → c' k = c0 k))) 92 (mkL [some (.ref (G.1 55)), some (.int (zI n1)), some (.int (zI v1)), none]) [] c0 := by
  refine A_aload_n (q := 93) X dX9_observe_92 rfl rfl ?_
  refine A_getf (q := 96) X fX9_35 dX9_observe_93 (by omega) h55 rfl rfl ?_
  refine A_aload_n (q := 97) X dX9_observe_96 rfl rfl ?_
  refine A_getf (q := 100) X fX9_205 dX9_observe_97 (by omega) h55 rfl rfl ?_
  refine A_iload_n (q := 101) X dX9_observe_100 rfl rfl ?_
  refine A_iast (q := 102) (h := 64) (o1.length) X dX9_observe_101 (by omega) h64 (by omega) (by omega) (by decide) rfl ?_
  refine A_aload_n (q := 103) X dX9_observe_102 rfl rfl ?_
  refine A_getf (q := 106) X fX9_38 dX9_observe_103 (by omega) (lk_ne (by omega) h55) rfl rfl ?_
  refine A_aload_n (q := 107) X dX9_observe_106 rfl rfl ?_
  refine A_getf (q := 110) X fX9_205 dX9_observe_107 (by omega) (lk_ne (by omega) h55) rfl rfl ?_
  refine A_iload_n (q := 111) X dX9_observe_110 rfl rfl ?_
  refine A_iast (q := 112) (h := 65) (o1.length) X dX9_observe_111 (by omega) (lk_ne (by omega) h65) (by omega) (by omega) (by decide) rfl ?_
  refine A_aload_n (q := 113) X dX9_observe_112 rfl rfl ?_
  refine A_dup (q := 114) X dX9_observe_113 rfl rfl ?_
  refine A_getf (q := 117) X fX9_205 dX9_observe_114 (by omega) (lk_ne (by omega) (lk_ne (by omega) h55)) rfl rfl ?_
  refine A_iconst (q := 118) X dX9_observe_117 rfl ?_
  refine A_iadd (q := 119) X dX9_observe_118 rfl ?_
  refine A_putf (q := 122) X pX9_205 dX9_observe_119 (by omega) (lk_ne (by omega) (lk_ne (by omega) h55)) (Nat.le_of_ble_eq_true rfl) rfl rfl rfl ?_
  refine A_aload_n (q := 123) X dX9_observe_122 rfl rfl ?_
  refine A_getf (q := 126) X fX9_205 dX9_observe_123 (by omega) lk_eq rfl rfl ?_
  have el : (((o1 ++ [(n1, v1)]).length : Nat) : Int) = ((o1.length : Nat) : Int) + 1 := by rw [List.length_append]; rfl
  refine A_ireturn X dX9_observe_126 ⟨by rw [el], by rw [el]; exact lk_eq, ⟨_, _, (lk_ne (by omega) (lk_ne (by omega) lk_eq)), (lk_ne (by omega) lk_eq), fun k hk => ?_⟩, fun k n0 n1 n2 => (lk_ne (by omega) (lk_ne (by omega) (lk_ne (by omega) rfl)))⟩
  rw [List.length_append, List.length_singleton] at hk
  by_cases e : k = o1.length
  · subst e; rw [lk_eq, lk_eq, getD2_ge]
  · rw [lk_ne e rfl, lk_ne e rfl, getD2_lt (by omega)]; exact hFV k (by omega)
set_option maxRecDepth 100000 in
set_option maxHeartbeats 4000000 in
theorem lp_X9_observe {l : Launch} {G : Gm} {K : Cx} {c0 : HP} {o : List (Int × Int)} {n1 v1 : Int} {F V : Nat → Int} {th ts rmb tw pk : Int} {sd : Int64} (X : Fx l G K cX9_observe 4 RX9 ((some .int)) (rmR 1 25)) (hG : injG G) (hN : G.2.1 = 72) (h055 : c0 55 = ob9 G th ts rmb ((o.length : Nat) : Int) sd tw pk) (hFV : ∀ k, k < o.length → o.getD k (0, 0) = (F k, V k)) (ho6 : o.length = 6) : ∀ (n : Nat) (i : Nat) (A : Nat → Int) (B : Nat → Int) (c : HP), 5 - i < n → i ≤ 5 → c 64 = aI G 6 A → c 65 = aI G 6 B → (∀ j, j < i → A j = F (j + 1) ∧ B j = V (j + 1)) → (∀ j, i ≤ j → A j = F j ∧ B j = V j) → (∀ k, k ≠ 64 → k ≠ 65 → c k = c0 k) → AW G K (Qi (fun v c' => v = zI (((o.drop 1 ++ [(n1, v1)]).length : Nat) : Int) ∧ c' 55 = ob9 G th ts rmb (((o.drop 1 ++ [(n1, v1)]).length : Nat) : Int) sd tw pk ∧ (∃ F' V' : Nat → Int, c' 64 = aI G 6 F' ∧ c' 65 = aI G 6 V' ∧ ∀ k, k < (o.drop 1 ++ [(n1, v1)]).length → (o.drop 1 ++ [(n1, v1)]).getD k (0, 0) = (F' k, V' k)) ∧ (∀ k, k ≠ 55 → k ≠ 64 → k ≠ 65 → c' k = c0 k))) 43 (mkL [some (.ref (G.1 55)), some (.int (zI n1)), some (.int (zI v1)), some (.int (zI ((i : Nat) : Int)))]) [] c := by
  intro n
  induction n with
  | zero => intro i A B c hmz; exact absurd hmz (Nat.not_lt_zero _)
  | succ n ih =>
    intro i A B c hmz hi h64 h65 hlo hhi hf0
    have h55 := (hf0 55 (by decide) (by decide)).trans h055
    refine A_iload_n (q := 44) X dX9_observe_43 rfl rfl ?_
    refine A_iconst (q := 45) X dX9_observe_44 rfl ?_
    refine A_icmp_ge (q := 48) (t := 82) X dX9_observe_45 (by omega) (by decide) rfl rfl (fun hb45 => ?_) (fun hb45 => ?_)
    · refine A_aload_n (q := 83) X dX9_observe_82 rfl rfl ?_
      refine A_dup (q := 84) X dX9_observe_83 rfl rfl ?_
      refine A_getf (q := 87) X fX9_205 dX9_observe_84 (by omega) h55 rfl rfl ?_
      refine A_iconst (q := 88) X dX9_observe_87 rfl ?_
      refine A_isub (q := 89) X dX9_observe_88 rfl ?_
      refine A_putf (q := 92) X pX9_205 dX9_observe_89 (by omega) h55 (Nat.le_of_ble_eq_true rfl) rfl rfl rfl ?_
      have ed : (((o.drop 1).length : Nat) : Int) = ((o.length : Nat) : Int) - 1 := by rw [List.length_drop]; omega
      refine AW.loc (sS rfl (sS rfl (sS rfl (sN sE)))) (AW.mono (tl_X9_observe (o1 := o.drop 1) X hG hN (by rw [ed]; exact lk_eq) ((lk_ne (by omega) h64)) ((lk_ne (by omega) h65)) (fun k hk => ?_) (by omega)) ?_)
      · rw [List.length_drop] at hk; rw [(hlo k (by omega)).1, (hlo k (by omega)).2, ← hFV (k + 1) (by omega)]; simp only [List.getD_eq_getElem?_getD, List.getElem?_drop]; rw [Nat.add_comm 1 k]
      · rintro r c9 ⟨v9, hv9, rfl, h559, h649, hf9⟩
        exact ⟨_, hv9, rfl, h559, h649, fun k n0 n1 n2 => (hf9 k n0 n1 n2).trans ((lk_ne (by omega) (hf0 k n1 n2)))⟩
    · refine A_aload_n (q := 49) X dX9_observe_48 rfl rfl ?_
      refine A_getf (q := 52) X fX9_35 dX9_observe_49 (by omega) h55 rfl rfl ?_
      refine A_iload_n (q := 53) X dX9_observe_52 rfl rfl ?_
      refine A_aload_n (q := 54) X dX9_observe_53 rfl rfl ?_
      refine A_getf (q := 57) X fX9_35 dX9_observe_54 (by omega) h55 rfl rfl ?_
      refine A_iload_n (q := 58) X dX9_observe_57 rfl rfl ?_
      refine A_iconst (q := 59) X dX9_observe_58 rfl ?_
      refine A_iadd (q := 60) X dX9_observe_59 rfl ?_
      refine A_iald (q := 61) (h := 64) ((i) + 1) X dX9_observe_60 (by omega) h64 (by omega) (by omega) (by decide) rfl ?_
      refine A_iast (q := 62) (h := 64) (i) X dX9_observe_61 (by omega) h64 (by omega) (by omega) (by decide) rfl ?_
      refine A_aload_n (q := 63) X dX9_observe_62 rfl rfl ?_
      refine A_getf (q := 66) X fX9_38 dX9_observe_63 (by omega) (lk_ne (by omega) h55) rfl rfl ?_
      refine A_iload_n (q := 67) X dX9_observe_66 rfl rfl ?_
      refine A_aload_n (q := 68) X dX9_observe_67 rfl rfl ?_
      refine A_getf (q := 71) X fX9_38 dX9_observe_68 (by omega) (lk_ne (by omega) h55) rfl rfl ?_
      refine A_iload_n (q := 72) X dX9_observe_71 rfl rfl ?_
      refine A_iconst (q := 73) X dX9_observe_72 rfl ?_
      refine A_iadd (q := 74) X dX9_observe_73 rfl ?_
      refine A_iald (q := 75) (h := 65) ((i) + 1) X dX9_observe_74 (by omega) (lk_ne (by omega) h65) (by omega) (by omega) (by decide) rfl ?_
      refine A_iast (q := 76) (h := 65) (i) X dX9_observe_75 (by omega) (lk_ne (by omega) h65) (by omega) (by omega) (by decide) rfl ?_
      refine A_iinc (q := 79) X dX9_observe_76 rfl (by decide) (okP_s rfl rfl) rfl ?_
      refine A_goto (q := 43) X dX9_observe_79 rfl ?_
      exact AW.loc (sS rfl (sS rfl (sS rfl (sZ rfl (by omega) sE)))) (ih (i + 1) _ _ _ (by omega) (by omega) ((lk_ne (by omega) lk_eq)) (lk_eq) (fun j hj => by by_cases e : j = i; (subst e; exact ⟨lk_eq.trans (hhi (j + 1) (by omega)).1, lk_eq.trans (hhi (j + 1) (by omega)).2⟩); exact ⟨lk_ne e (hlo j (by omega)).1, lk_ne e (hlo j (by omega)).2⟩) (fun j hj => ⟨lk_ne (by omega) (hhi j (by omega)).1, lk_ne (by omega) (hhi j (by omega)).2⟩) (fun k n0 n1 => (lk_ne (by omega) (lk_ne (by omega) (hf0 k n0 n1)))))
set_option maxRecDepth 100000 in
set_option maxHeartbeats 4000000 in
theorem c_X9_observe {l : Launch} {G : Gm} {c : HP} {tm x : List Int} {hs : List (List Int)} {s0 s1 : List Int} {o : List (Int × Int)} {sd : Int64} {n v : Int} (hG : injG G) (hnr : rg n) (hvr : rg v) (hW : WM G c (tm, x, hs, s0, s1, o, sd)) : AMet l G yX9_observe cX9_observe 4 ((some .int)) (rmR 1 25) [.ref (G.1 55), .int (zI n), .int (zI v)] c (Qi (fun v_ c' => v_ = zI (fObserve n v (tm, x, hs, s0, s1, o, sd)).1 ∧ WM G c' (fObserve n v (tm, x, hs, s0, s1, o, sd)).2 ∧ (∀ k, k < 55 → c' k = c k))) := by
  refine AMet.of (vl := [some (.ref (G.1 55)), some (.int (zI n)), some (.int (zI v))]) (by decide) hG (Nat.le_of_ble_eq_true rfl) rfl ?_
  intro K X
  have X : Fx l G K cX9_observe 4 RX9 ((some .int)) (rmR 1 25) := X
  obtain ⟨hN, ⟨th, tw, pk, h55, htw⟩, hX, hT, hgd, hR8, hR9, hO, hH, hV, hB, hSc, hWd⟩ := hW
  dsimp only at h55 hX hT hgd hH hV hB
  have hl0 := hT.len
  have hxl := hX.1
  have hhl := hH.1
  have hol := hB.1
  have hB0 := hB
  obtain ⟨-, hor, FO, VO, h64, h65, hFV⟩ := hB0
  refine A_aload_n (q := 1) X dX9_observe_0 rfl rfl ?_
  refine A_iconst (q := 2) X dX9_observe_1 rfl ?_
  refine A_putf (q := 5) X pX9_59 dX9_observe_2 (by omega) h55 (Nat.le_of_ble_eq_true rfl) rfl rfl rfl ?_
  refine A_iload_n (q := 6) X dX9_observe_5 rfl rfl ?_
  refine A_i2l (q := 7) X dX9_observe_6 rfl ?_
  refine A_lconst (q := 8) (v := 0) X dX9_observe_7 rfl rfl ?_
  refine A_ldc2 (q := 11) X dX9_observe_8 nX9_143 rfl ?_
  refine A_S3i (q := 14) X (c_inZ (a := n) (b := 0) (d := 50) hG rfl (by decide) (by decide) (by omega) (by omega) (by omega)) mX9_in kX9_114 dX9_observe_11 (by decide) (Nat.le_of_ble_eq_true rfl) rfl (fun vq_3 cq_2 hq_1 => ?_)
  obtain ⟨rfl, hq_1⟩ := hq_1
  obtain rfl := hq_1.symm
  refine A_beq (q := 17) (t := 29) X dX9_observe_14 rfl rfl (fun hb14 => ?_) (fun hb14 => ?_)
  · refine A_bipush (q := 31) X dX9_observe_29 (by decide) rfl ?_
    have e9 : fObserve n v (tm, x, hs, s0, s1, o, sd) = (-2, (tm, x, hs, s0, s1, o, sd)) := by unfold fObserve; dsimp only; rw [if_neg (by omega)]
    exact A_ireturn X dX9_observe_31 ⟨by rw [e9], by rw [e9]; exact ⟨hN, ⟨_, _, _, lk_eq, htw⟩, (hX.keep (lk_ne (by omega) rfl)), (hT.keep (lk_ne (by omega) rfl)), hgd, (hR8.keep (lk_ne (by omega) rfl)), (hR9.keep (lk_ne (by omega) rfl)), (hO.keep (lk_ne (by omega) rfl)), (hH.keep (lk_ne (by omega) rfl)), (hV.keep (lk_ne (by omega) rfl) (lk_ne (by omega) rfl)), (hB.keep (lk_ne (by omega) rfl) (lk_ne (by omega) rfl)), (hSc.keep (lk_ne (by omega) rfl) (lk_ne (by omega) rfl) (lk_ne (by omega) rfl)), (hWd.keep (lk_ne (by omega) rfl) (lk_ne (by omega) rfl) (lk_ne (by omega) rfl))⟩, (fun k n0 => (lk_ne (by omega) rfl))⟩
  · refine A_iload_n (q := 18) X dX9_observe_17 rfl rfl ?_
    refine A_i2l (q := 19) X dX9_observe_18 rfl ?_
    refine A_lconst (q := 20) (v := 1) X dX9_observe_19 rfl rfl ?_
    refine A_ldc2 (q := 23) X dX9_observe_20 nX9_155 rfl ?_
    refine A_S3i (q := 26) X (c_inZ (a := v) (b := 1) (d := 200) hG rfl (by decide) (by decide) (by omega) (by omega) (by omega)) mX9_in kX9_114 dX9_observe_23 (by decide) (Nat.le_of_ble_eq_true rfl) rfl (fun vq_6 cq_5 hq_4 => ?_)
    obtain ⟨rfl, hq_4⟩ := hq_4
    obtain rfl := hq_4.symm
    refine A_bne (q := 29) (t := 32) X dX9_observe_26 rfl rfl (fun hb26 => ?_) (fun hb26 => ?_)
    · refine A_aload_n (q := 33) X dX9_observe_32 rfl rfl ?_
      refine A_getf (q := 36) X fX9_205 dX9_observe_33 (by omega) lk_eq rfl rfl ?_
      refine A_bipush (q := 38) X dX9_observe_36 (by decide) rfl ?_
      refine A_icmp_ne (q := 41) (t := 92) X dX9_observe_38 (by omega) (by decide) rfl rfl (fun hb38 => ?_) (fun hb38 => ?_)
      · refine AW.loc (sS rfl (sS rfl (sS rfl (sN sE)))) (AW.mono (tl_X9_observe X hG hN (lk_eq) ((lk_ne (by omega) h64)) ((lk_ne (by omega) h65)) hFV (by omega)) ?_)
        rintro r c9 ⟨v9, hv9, rfl, h559, ⟨F9, V9, h649, h659, hFV9⟩, hf9⟩
        have eo : obA o (n, v) = o ++ [(n, v)] := by unfold obA; first | rw [if_pos (by omega)] | rw [if_neg (by omega)]
        rw [← eo] at h559 hFV9
        have hok := obA_ok (q := (n, v)) hol hor ⟨by show 0 ≤ n ∧ n ≤ 50; omega, by show 1 ≤ v ∧ v ≤ 200; omega⟩
        have hB9 : Ob9 G c9 (obA o (n, v)) := ⟨hok.1, hok.2, F9, V9, h649, h659, hFV9⟩
        have e9 : fObserve n v (tm, x, hs, s0, s1, o, sd) = ((((obA o (n, v)).length : Nat) : Int), (tm, x, hs, s0, s1, (obA o (n, v)), sd)) := by unfold fObserve; dsimp only; rw [if_pos (by omega)]
        exact ⟨_, hv9, by rw [e9, eo], by rw [e9]; exact ⟨hN, ⟨_, _, _, h559, htw⟩, (hX.keep ((hf9 56 (by omega) (by omega) (by omega)).trans (lk_ne (by omega) rfl))), (hT.keep ((hf9 57 (by omega) (by omega) (by omega)).trans (lk_ne (by omega) rfl))), hgd, (hR8.keep ((hf9 58 (by omega) (by omega) (by omega)).trans (lk_ne (by omega) rfl))), (hR9.keep ((hf9 59 (by omega) (by omega) (by omega)).trans (lk_ne (by omega) rfl))), (hO.keep ((hf9 60 (by omega) (by omega) (by omega)).trans (lk_ne (by omega) rfl))), (hH.keep ((hf9 61 (by omega) (by omega) (by omega)).trans (lk_ne (by omega) rfl))), (hV.keep ((hf9 62 (by omega) (by omega) (by omega)).trans (lk_ne (by omega) rfl)) ((hf9 63 (by omega) (by omega) (by omega)).trans (lk_ne (by omega) rfl))), hB9, (hSc.keep ((hf9 66 (by omega) (by omega) (by omega)).trans (lk_ne (by omega) rfl)) ((hf9 67 (by omega) (by omega) (by omega)).trans (lk_ne (by omega) rfl)) ((hf9 68 (by omega) (by omega) (by omega)).trans (lk_ne (by omega) rfl))), (hWd.keep ((hf9 69 (by omega) (by omega) (by omega)).trans (lk_ne (by omega) rfl)) ((hf9 70 (by omega) (by omega) (by omega)).trans (lk_ne (by omega) rfl)) ((hf9 71 (by omega) (by omega) (by omega)).trans (lk_ne (by omega) rfl)))⟩, (fun k n0 => ((hf9 k (by omega) (by omega) (by omega)).trans (lk_ne (by omega) rfl)))⟩
      · refine A_iconst (q := 42) X dX9_observe_41 rfl ?_
        refine A_istore_n (q := 43) X dX9_observe_42 (by decide) (okP_s rfl rfl) rfl ?_
        refine AW.loc (sS rfl (sS rfl (sS rfl (sZ rfl rfl sE)))) (AW.mono (lp_X9_observe X hG hN (lk_eq) hFV (by omega) _ 0 FO VO _ (Nat.lt_succ_self _) (Nat.zero_le _) ((lk_ne (by omega) h64)) ((lk_ne (by omega) h65)) (fun k hk => absurd hk (Nat.not_lt_zero _)) (fun _ _ => ⟨rfl, rfl⟩) (fun _ _ _ => rfl)) ?_)
        rintro r c9 ⟨v9, hv9, rfl, h559, ⟨F9, V9, h649, h659, hFV9⟩, hf9⟩
        have eo : obA o (n, v) = o.drop 1 ++ [(n, v)] := by unfold obA; first | rw [if_pos (by omega)] | rw [if_neg (by omega)]
        rw [← eo] at h559 hFV9
        have hok := obA_ok (q := (n, v)) hol hor ⟨by show 0 ≤ n ∧ n ≤ 50; omega, by show 1 ≤ v ∧ v ≤ 200; omega⟩
        have hB9 : Ob9 G c9 (obA o (n, v)) := ⟨hok.1, hok.2, F9, V9, h649, h659, hFV9⟩
        have e9 : fObserve n v (tm, x, hs, s0, s1, o, sd) = ((((obA o (n, v)).length : Nat) : Int), (tm, x, hs, s0, s1, (obA o (n, v)), sd)) := by unfold fObserve; dsimp only; rw [if_pos (by omega)]
        exact ⟨_, hv9, by rw [e9, eo], by rw [e9]; exact ⟨hN, ⟨_, _, _, h559, htw⟩, (hX.keep ((hf9 56 (by omega) (by omega) (by omega)).trans (lk_ne (by omega) rfl))), (hT.keep ((hf9 57 (by omega) (by omega) (by omega)).trans (lk_ne (by omega) rfl))), hgd, (hR8.keep ((hf9 58 (by omega) (by omega) (by omega)).trans (lk_ne (by omega) rfl))), (hR9.keep ((hf9 59 (by omega) (by omega) (by omega)).trans (lk_ne (by omega) rfl))), (hO.keep ((hf9 60 (by omega) (by omega) (by omega)).trans (lk_ne (by omega) rfl))), (hH.keep ((hf9 61 (by omega) (by omega) (by omega)).trans (lk_ne (by omega) rfl))), (hV.keep ((hf9 62 (by omega) (by omega) (by omega)).trans (lk_ne (by omega) rfl)) ((hf9 63 (by omega) (by omega) (by omega)).trans (lk_ne (by omega) rfl))), hB9, (hSc.keep ((hf9 66 (by omega) (by omega) (by omega)).trans (lk_ne (by omega) rfl)) ((hf9 67 (by omega) (by omega) (by omega)).trans (lk_ne (by omega) rfl)) ((hf9 68 (by omega) (by omega) (by omega)).trans (lk_ne (by omega) rfl))), (hWd.keep ((hf9 69 (by omega) (by omega) (by omega)).trans (lk_ne (by omega) rfl)) ((hf9 70 (by omega) (by omega) (by omega)).trans (lk_ne (by omega) rfl)) ((hf9 71 (by omega) (by omega) (by omega)).trans (lk_ne (by omega) rfl)))⟩, (fun k n0 => ((hf9 k (by omega) (by omega) (by omega)).trans (lk_ne (by omega) rfl)))⟩
    · refine A_bipush (q := 31) X dX9_observe_29 (by decide) rfl ?_
      have e9 : fObserve n v (tm, x, hs, s0, s1, o, sd) = (-2, (tm, x, hs, s0, s1, o, sd)) := by unfold fObserve; dsimp only; rw [if_neg (by omega)]
      exact A_ireturn X dX9_observe_31 ⟨by rw [e9], by rw [e9]; exact ⟨hN, ⟨_, _, _, lk_eq, htw⟩, (hX.keep (lk_ne (by omega) rfl)), (hT.keep (lk_ne (by omega) rfl)), hgd, (hR8.keep (lk_ne (by omega) rfl)), (hR9.keep (lk_ne (by omega) rfl)), (hO.keep (lk_ne (by omega) rfl)), (hH.keep (lk_ne (by omega) rfl)), (hV.keep (lk_ne (by omega) rfl) (lk_ne (by omega) rfl)), (hB.keep (lk_ne (by omega) rfl) (lk_ne (by omega) rfl)), (hSc.keep (lk_ne (by omega) rfl) (lk_ne (by omega) rfl) (lk_ne (by omega) rfl)), (hWd.keep (lk_ne (by omega) rfl) (lk_ne (by omega) rfl) (lk_ne (by omega) rfl))⟩, (fun k n0 => (lk_ne (by omega) rfl))⟩
set_option maxRecDepth 100000 in
set_option maxHeartbeats 4000000 in
theorem lp_X9_forgetAfter {l : Launch} {G : Gm} {K : Cx} {c0 : HP} {o : List (Int × Int)} {F V : Nat → Int} {n1 : Int} {th ts rmb tw pk : Int} {sd : Int64} (X : Fx l G K cX9_forgetAfter 4 RX9 ((some .int)) (rmR 1 25)) (hG : injG G) (hN : G.2.1 = 72) (h055 : c0 55 = ob9 G th ts rmb ((o.length : Nat) : Int) sd tw pk) (hol : o.length ≤ 6) (hor : ∀ q ∈ o, (0 ≤ q.1 ∧ q.1 ≤ 50) ∧ 1 ≤ q.2 ∧ q.2 ≤ 200) (hFV : ∀ k, k < o.length → o.getD k (0, 0) = (F k, V k)) (hn1 : 0 ≤ n1 ∧ n1 ≤ 50) : ∀ (n : Nat) (i : Nat) (A : Nat → Int) (B : Nat → Int) (c : HP), o.length - i < n → i ≤ o.length → c 64 = aI G 6 A → c 65 = aI G 6 B → (∀ k, k < (obF (o.take i) n1).length → (obF (o.take i) n1).getD k (0, 0) = (A k, B k)) → (∀ j, i ≤ j → j < o.length → A j = F j ∧ B j = V j) → (∀ k, k ≠ 64 → k ≠ 65 → c k = c0 k) → AW G K (Qi (fun v c' => v = zI ((((obF o n1)).length : Nat) : Int) ∧ c' 55 = ob9 G th ts rmb ((((obF o n1)).length : Nat) : Int) sd tw pk ∧ (∃ F' V' : Nat → Int, c' 64 = aI G 6 F' ∧ c' 65 = aI G 6 V' ∧ ∀ k, k < ((obF o n1)).length → ((obF o n1)).getD k (0, 0) = (F' k, V' k)) ∧ (∀ k, k ≠ 55 → k ≠ 64 → k ≠ 65 → c' k = c0 k))) 24 (mkL [some (.ref (G.1 55)), some (.int (zI n1)), some (.int (zI (((obF (o.take i) n1).length : Nat) : Int))), some (.int (zI ((i : Nat) : Int)))]) [] c := by
  intro n
  induction n with
  | zero => intro i A B c hmz; exact absurd hmz (Nat.not_lt_zero _)
  | succ n ih =>
    intro i A B c hmz hi h64 h65 hlo hhi hf0
    have h55 := (hf0 55 (by decide) (by decide)).trans h055
    refine A_iload_n (q := 25) X dX9_forgetAfter_24 rfl rfl ?_
    refine A_aload_n (q := 26) X dX9_forgetAfter_25 rfl rfl ?_
    refine A_getf (q := 29) X fX9_205 dX9_forgetAfter_26 (by omega) h55 rfl rfl ?_
    refine A_icmp_ge (q := 32) (t := 75) X dX9_forgetAfter_29 (by omega) (by omega) rfl rfl (fun hb29 => ?_) (fun hb29 => ?_)
    · refine A_aload_n (q := 76) X dX9_forgetAfter_75 rfl rfl ?_
      refine A_iload_n (q := 77) X dX9_forgetAfter_76 rfl rfl ?_
      refine A_putf (q := 80) X pX9_205 dX9_forgetAfter_77 (by omega) h55 (Nat.le_of_ble_eq_true rfl) rfl rfl rfl ?_
      refine A_iload_n (q := 81) X dX9_forgetAfter_80 rfl rfl ?_
      have ei : i = o.length := by omega
      have eo : o.take i = o := by rw [ei]; exact List.take_length
      rw [eo] at hlo ⊢
      exact A_ireturn X dX9_forgetAfter_81 ⟨rfl, lk_eq, ⟨A, B, (lk_ne (by omega) h64), (lk_ne (by omega) h65), hlo⟩, fun k n0 n1 n2 => (lk_ne (by omega) (hf0 k n1 n2))⟩
    · have hFi := hFV i (by omega)
      have hoi := hor _ (getD2_mem (o := o) (k := i) (by omega))
      rw [hFi] at hoi
      obtain ⟨hA1, hB1⟩ := hhi i (Nat.le_refl _) (by omega)
      have hof := obF_len o n1 i
      dsimp only at hoi
      refine A_aload_n (q := 33) X dX9_forgetAfter_32 rfl rfl ?_
      refine A_getf (q := 36) X fX9_35 dX9_forgetAfter_33 (by omega) h55 rfl rfl ?_
      refine A_iload_n (q := 37) X dX9_forgetAfter_36 rfl rfl ?_
      refine A_iald (q := 38) (h := 64) (i) X dX9_forgetAfter_37 (by omega) h64 (by omega) (by omega) (by decide) rfl ?_
      refine A_iload_n (q := 39) X dX9_forgetAfter_38 rfl rfl ?_
      refine A_icmp_gt (q := 42) (t := 69) X dX9_forgetAfter_39 (by omega) (by omega) rfl rfl (fun hb39 => ?_) (fun hb39 => ?_)
      · refine A_iinc (q := 72) X dX9_forgetAfter_69 rfl (by decide) (okP_s rfl rfl) rfl ?_
        refine A_goto (q := 24) X dX9_forgetAfter_72 rfl ?_
        have ey := obF_no (n := n1) (i := i) (o := o) (by omega) (by rw [hFi]; show ¬ F i ≤ n1; omega)
        exact AW.loc (sS rfl (sS rfl (sZ rfl (by rw [ey]) (sZ rfl (by omega) sE)))) (ih (i + 1) A B c (by omega) (by omega) h64 h65 (by rw [ey]; exact hlo) (fun j hj hj2 => hhi j (by omega) hj2) hf0)
      · refine A_aload_n (q := 43) X dX9_forgetAfter_42 rfl rfl ?_
        refine A_getf (q := 46) X fX9_35 dX9_forgetAfter_43 (by omega) h55 rfl rfl ?_
        refine A_iload_n (q := 47) X dX9_forgetAfter_46 rfl rfl ?_
        refine A_aload_n (q := 48) X dX9_forgetAfter_47 rfl rfl ?_
        refine A_getf (q := 51) X fX9_35 dX9_forgetAfter_48 (by omega) h55 rfl rfl ?_
        refine A_iload_n (q := 52) X dX9_forgetAfter_51 rfl rfl ?_
        refine A_iald (q := 53) (h := 64) (i) X dX9_forgetAfter_52 (by omega) h64 (by omega) (by omega) (by decide) rfl ?_
        refine A_iast (q := 54) (h := 64) ((obF (o.take i) n1).length) X dX9_forgetAfter_53 (by omega) h64 (by omega) (by omega) (by decide) rfl ?_
        refine A_aload_n (q := 55) X dX9_forgetAfter_54 rfl rfl ?_
        refine A_getf (q := 58) X fX9_38 dX9_forgetAfter_55 (by omega) (lk_ne (by omega) h55) rfl rfl ?_
        refine A_iload_n (q := 59) X dX9_forgetAfter_58 rfl rfl ?_
        refine A_aload_n (q := 60) X dX9_forgetAfter_59 rfl rfl ?_
        refine A_getf (q := 63) X fX9_38 dX9_forgetAfter_60 (by omega) (lk_ne (by omega) h55) rfl rfl ?_
        refine A_iload_n (q := 64) X dX9_forgetAfter_63 rfl rfl ?_
        refine A_iald (q := 65) (h := 65) (i) X dX9_forgetAfter_64 (by omega) (lk_ne (by omega) h65) (by omega) (by omega) (by decide) rfl ?_
        refine A_iast (q := 66) (h := 65) ((obF (o.take i) n1).length) X dX9_forgetAfter_65 (by omega) (lk_ne (by omega) h65) (by omega) (by omega) (by decide) rfl ?_
        refine A_iinc (q := 69) X dX9_forgetAfter_66 rfl (by decide) (okP_s rfl rfl) rfl ?_
        refine A_iinc (q := 72) X dX9_forgetAfter_69 rfl (by decide) (okP_s rfl rfl) rfl ?_
        refine A_goto (q := 24) X dX9_forgetAfter_72 rfl ?_
        have ey := obF_yes (n := n1) (i := i) (o := o) (by omega) (by rw [hFi]; show F i ≤ n1; omega)
        have eyl : (obF (o.take (i + 1)) n1).length = (obF (o.take i) n1).length + 1 := by rw [ey, List.length_append]; rfl
        refine AW.loc (sS rfl (sS rfl (sZ rfl (by omega) (sZ rfl (by omega) sE)))) (ih (i + 1) _ _ _ (by omega) (by omega) ((lk_ne (by omega) lk_eq)) (lk_eq) (fun j hj => ?_) (fun j hj hj2 => ?_) (fun k n0 n1 => (lk_ne (by omega) (lk_ne (by omega) (hf0 k n0 n1)))))
        · by_cases e : j = (obF (o.take i) n1).length
          · subst e; rw [lk_eq, lk_eq, ey, getD2_ge, hFi, hA1, hB1]
          · rw [lk_ne e rfl, lk_ne e rfl, ey, getD2_lt (by omega)]; exact hlo j (by omega)
        · obtain ⟨g1, g2⟩ := hhi j (by omega) hj2; exact ⟨(lk_ne (by omega) rfl).trans g1, (lk_ne (by omega) rfl).trans g2⟩
set_option maxRecDepth 100000 in
set_option maxHeartbeats 4000000 in
theorem c_X9_forgetAfter {l : Launch} {G : Gm} {c : HP} {tm x : List Int} {hs : List (List Int)} {s0 s1 : List Int} {o : List (Int × Int)} {sd : Int64} {n : Int} (hG : injG G) (hnr : rg n) (hW : WM G c (tm, x, hs, s0, s1, o, sd)) : AMet l G yX9_forgetAfter cX9_forgetAfter 4 ((some .int)) (rmR 1 25) [.ref (G.1 55), .int (zI n)] c (Qi (fun v c' => v = zI (fForget n (tm, x, hs, s0, s1, o, sd)).1 ∧ WM G c' (fForget n (tm, x, hs, s0, s1, o, sd)).2 ∧ (∀ k, k < 55 → c' k = c k))) := by
  refine AMet.of (vl := [some (.ref (G.1 55)), some (.int (zI n))]) (by decide) hG (Nat.le_of_ble_eq_true rfl) rfl ?_
  intro K X
  have X : Fx l G K cX9_forgetAfter 4 RX9 ((some .int)) (rmR 1 25) := X
  obtain ⟨hN, ⟨th, tw, pk, h55, htw⟩, hX, hT, hgd, hR8, hR9, hO, hH, hV, hB, hSc, hWd⟩ := hW
  dsimp only at h55 hX hT hgd hH hV hB
  have hl0 := hT.len
  have hxl := hX.1
  have hhl := hH.1
  have hol := hB.1
  have hB0 := hB
  obtain ⟨-, hor, FO, VO, h64, h65, hFV⟩ := hB0
  refine A_aload_n (q := 1) X dX9_forgetAfter_0 rfl rfl ?_
  refine A_iconst (q := 2) X dX9_forgetAfter_1 rfl ?_
  refine A_putf (q := 5) X pX9_59 dX9_forgetAfter_2 (by omega) h55 (Nat.le_of_ble_eq_true rfl) rfl rfl rfl ?_
  refine A_iload_n (q := 6) X dX9_forgetAfter_5 rfl rfl ?_
  refine A_i2l (q := 7) X dX9_forgetAfter_6 rfl ?_
  refine A_lconst (q := 8) (v := 0) X dX9_forgetAfter_7 rfl rfl ?_
  refine A_ldc2 (q := 11) X dX9_forgetAfter_8 nX9_143 rfl ?_
  refine A_S3i (q := 14) X (c_inZ (a := n) (b := 0) (d := 50) hG rfl (by decide) (by decide) (by omega) (by omega) (by omega)) mX9_in kX9_114 dX9_forgetAfter_11 (by decide) (Nat.le_of_ble_eq_true rfl) rfl (fun vq_3 cq_2 hq_1 => ?_)
  obtain ⟨rfl, hq_1⟩ := hq_1
  obtain rfl := hq_1.symm
  refine A_bne (q := 17) (t := 20) X dX9_forgetAfter_14 rfl rfl (fun hb14 => ?_) (fun hb14 => ?_)
  · refine A_iconst (q := 21) X dX9_forgetAfter_20 rfl ?_
    refine A_istore_n (q := 22) X dX9_forgetAfter_21 (by decide) (okP_s rfl rfl) rfl ?_
    refine A_iconst (q := 23) X dX9_forgetAfter_22 rfl ?_
    refine A_istore_n (q := 24) X dX9_forgetAfter_23 (by decide) (okP_s rfl rfl) rfl ?_
    refine AW.loc (sS rfl (sS rfl (sZ rfl rfl (sZ rfl rfl sE)))) (AW.mono (lp_X9_forgetAfter X hG hN (lk_eq) hol hor hFV (by omega) _ 0 FO VO _ (Nat.lt_succ_self _) (Nat.zero_le _) ((lk_ne (by omega) h64)) ((lk_ne (by omega) h65)) (fun k hk => absurd hk (Nat.not_lt_zero _)) (fun _ _ _ => ⟨rfl, rfl⟩) (fun _ _ _ => rfl)) ?_)
    rintro r c9 ⟨v9, hv9, rfl, h559, ⟨F9, V9, h649, h659, hFV9⟩, hf9⟩
    have hB9 : Ob9 G c9 (obF o n) := ⟨Nat.le_trans (List.length_filter_le _ _) hol, fun q hq => hor q (List.mem_filter.mp hq).1, F9, V9, h649, h659, hFV9⟩
    have e9 : fForget n (tm, x, hs, s0, s1, o, sd) = ((((obF o n).length : Nat) : Int), (tm, x, hs, s0, s1, (obF o n), sd)) := by unfold fForget; dsimp only; rw [if_pos (by omega)]
    exact ⟨_, hv9, by rw [e9], by rw [e9]; exact ⟨hN, ⟨_, _, _, h559, htw⟩, (hX.keep ((hf9 56 (by omega) (by omega) (by omega)).trans (lk_ne (by omega) rfl))), (hT.keep ((hf9 57 (by omega) (by omega) (by omega)).trans (lk_ne (by omega) rfl))), hgd, (hR8.keep ((hf9 58 (by omega) (by omega) (by omega)).trans (lk_ne (by omega) rfl))), (hR9.keep ((hf9 59 (by omega) (by omega) (by omega)).trans (lk_ne (by omega) rfl))), (hO.keep ((hf9 60 (by omega) (by omega) (by omega)).trans (lk_ne (by omega) rfl))), (hH.keep ((hf9 61 (by omega) (by omega) (by omega)).trans (lk_ne (by omega) rfl))), (hV.keep ((hf9 62 (by omega) (by omega) (by omega)).trans (lk_ne (by omega) rfl)) ((hf9 63 (by omega) (by omega) (by omega)).trans (lk_ne (by omega) rfl))), hB9, (hSc.keep ((hf9 66 (by omega) (by omega) (by omega)).trans (lk_ne (by omega) rfl)) ((hf9 67 (by omega) (by omega) (by omega)).trans (lk_ne (by omega) rfl)) ((hf9 68 (by omega) (by omega) (by omega)).trans (lk_ne (by omega) rfl))), (hWd.keep ((hf9 69 (by omega) (by omega) (by omega)).trans (lk_ne (by omega) rfl)) ((hf9 70 (by omega) (by omega) (by omega)).trans (lk_ne (by omega) rfl)) ((hf9 71 (by omega) (by omega) (by omega)).trans (lk_ne (by omega) rfl)))⟩, (fun k n0 => ((hf9 k (by omega) (by omega) (by omega)).trans (lk_ne (by omega) rfl)))⟩
  · refine A_bipush (q := 19) X dX9_forgetAfter_17 (by decide) rfl ?_
    have e9 : fForget n (tm, x, hs, s0, s1, o, sd) = (-2, (tm, x, hs, s0, s1, o, sd)) := by unfold fForget; dsimp only; rw [if_neg (by omega)]
    exact A_ireturn X dX9_forgetAfter_19 ⟨by rw [e9], by rw [e9]; exact ⟨hN, ⟨_, _, _, lk_eq, htw⟩, (hX.keep (lk_ne (by omega) rfl)), (hT.keep (lk_ne (by omega) rfl)), hgd, (hR8.keep (lk_ne (by omega) rfl)), (hR9.keep (lk_ne (by omega) rfl)), (hO.keep (lk_ne (by omega) rfl)), (hH.keep (lk_ne (by omega) rfl)), (hV.keep (lk_ne (by omega) rfl) (lk_ne (by omega) rfl)), (hB.keep (lk_ne (by omega) rfl) (lk_ne (by omega) rfl)), (hSc.keep (lk_ne (by omega) rfl) (lk_ne (by omega) rfl) (lk_ne (by omega) rfl)), (hWd.keep (lk_ne (by omega) rfl) (lk_ne (by omega) rfl) (lk_ne (by omega) rfl))⟩, (fun k n0 => (lk_ne (by omega) rfl))⟩
