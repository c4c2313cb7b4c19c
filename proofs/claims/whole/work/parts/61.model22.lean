/-! THE MODEL's calls: equivalence, possible strategies -/
theorem tk_iff {a b : List Int} {i : Nat} (ha : i < a.length) (hb : i < b.length) : a.take (i + 1) = b.take (i + 1) ↔ a.take i = b.take i ∧ a.getD i 0 = b.getD i 0 := by
  rw [take_succ_getD ha, take_succ_getD hb]
  constructor
  · intro h
    have h2 := List.append_inj' h rfl
    exact ⟨h2.1, List.cons.inj h2.2 |>.1⟩
  · rintro ⟨h1, h2⟩
    rw [h1, h2]
theorem hold_s {l : List Int} {o : List (Int × Int)} {s : Int} {k : Nat} (hk : k < o.length) : hold l (o.take (k + 1)) s ↔ hold l (o.take k) s ∧ (((runT s (o.getD k (0, 0)).1.toNat l).1.length : Nat) : Int) = (o.getD k (0, 0)).2 := by
  rw [take2_succ hk]
  constructor
  · intro h
    exact ⟨fun q hq => h q (List.mem_append_left _ hq), h _ (List.mem_append_right _ (List.mem_singleton.mpr rfl))⟩
  · rintro ⟨h1, h2⟩ q hq
    rcases List.mem_append.mp hq with z | z
    · exact h1 q z
    · rw [List.mem_singleton.mp z]; exact h2
set_option maxRecDepth 100000 in
set_option maxHeartbeats 4000000 in
theorem lp_X9_isEquivalent {l : Launch} {G : Gm} {K : Cx} {c : HP} {a b : List Int} {Fa Fb : Nat → Int} {sd : Int64} {th ts rmb obn tw pk : Int} (X : Fx l G K cX9_isEquivalent 4 RX9 ((some .int)) (rmR 6 138)) (hG : injG G) (hN : G.2.1 = 72) (h55 : c 55 = ob9 G th ts rmb obn sd tw pk) (h58 : c 58 = aI G 201 Fa) (h59 : c 59 = aI G 201 Fb) (hla : a.length ≤ 200) (hlb : b.length ≤ 200) (hSa : Fa 200 = ((a.length : Nat) : Int)) (hFa : ∀ k, k < a.length → Fa k = a.getD k 0) (hFb : ∀ k, k < b.length → Fb k = b.getD k 0) (hga : Gd a) (hgb : Gd b) : ∀ (n : Nat) (i : Nat), a.length - i < n → i ≤ a.length → AW G K (Qi (fun v c' => v = zI (if a = b then 1 else 0) ∧ c' = c)) 101 (mkL [some (.ref (G.1 55)), none, some (.int (zI (if (a.length = b.length ∧ a.take i = b.take i) then 1 else 0 : Int))), some (.int (zI ((i : Nat) : Int)))]) [] c := by
  intro n
  induction n with
  | zero => intro i hmz; exact absurd hmz (Nat.not_lt_zero _)
  | succ n ih =>
    intro i hmz hi
    refine A_iload_n (q := 102) X dX9_isEquivalent_101 rfl rfl ?_
    refine A_aload_n (q := 103) X dX9_isEquivalent_102 rfl rfl ?_
    refine A_getf (q := 106) X fX9_16 dX9_isEquivalent_103 (by omega) h55 rfl rfl ?_
    refine A_sipush (q := 109) X dX9_isEquivalent_106 (by decide) rfl ?_
    refine A_iald (q := 110) (h := 58) 200 X dX9_isEquivalent_109 (by omega) h58 (by omega) (by omega) (by decide) rfl ?_
    rw [hSa]
    refine A_icmp_ge (q := 113) (t := 144) X dX9_isEquivalent_110 (by omega) (by omega) rfl rfl (fun hb110 => ?_) (fun hb110 => ?_)
    · refine A_iload_n (q := 145) X dX9_isEquivalent_144 rfl rfl ?_
      refine A_beq (q := 148) (t := 152) X dX9_isEquivalent_145 rfl rfl (fun hb145 => ?_) (fun hb145 => ?_)
      · refine A_iconst (q := 153) X dX9_isEquivalent_152 rfl ?_
        exact A_ireturn X dX9_isEquivalent_153 ⟨zb0 (fun z => hb145 ⟨by rw [z], by rw [z]⟩), rfl⟩
      · refine A_iconst (q := 149) X dX9_isEquivalent_148 rfl ?_
        refine A_goto (q := 153) X dX9_isEquivalent_149 rfl ?_
        exact A_ireturn X dX9_isEquivalent_153 ⟨zb1 (by have h1 := hb145.1; have h2 := hb145.2; rw [List.take_of_length_le (by omega), List.take_of_length_le (by omega)] at h2; exact h2), rfl⟩
    · refine A_iload_n (q := 114) X dX9_isEquivalent_113 rfl rfl ?_
      refine A_beq (q := 117) (t := 136) X dX9_isEquivalent_114 rfl rfl (fun hb114 => ?_) (fun hb114 => ?_)
      · refine A_iconst (q := 137) X dX9_isEquivalent_136 rfl ?_
        refine A_istore_n (q := 138) X dX9_isEquivalent_137 (by decide) (okP_n rfl) rfl ?_
        refine A_iinc (q := 141) X dX9_isEquivalent_138 rfl (by decide) (okP_s rfl rfl) rfl ?_
        refine A_goto (q := 101) X dX9_isEquivalent_141 rfl ?_
        exact AW.loc (sS rfl (sN (sS (congrArg (fun z => some (Value.int z)) (show zI 0 = zI (if (a.length = b.length ∧ a.take (i + 1) = b.take (i + 1)) then 1 else 0) from zb0 (fun z => hb114 ⟨z.1, by have h3 := congrArg (List.take i) z.2; rw [List.take_take, List.take_take, Nat.min_eq_left (by omega)] at h3; exact h3⟩))) (sZ rfl (by omega) sE)))) (ih (i + 1) (by omega) (by omega))
      · have hab := hb114.1
        have hai := hga.at (i := i) (by omega)
        have hbi := hgb.at (i := i) (by omega)
        refine A_aload_n (q := 118) X dX9_isEquivalent_117 rfl rfl ?_
        refine A_getf (q := 121) X fX9_16 dX9_isEquivalent_118 (by omega) h55 rfl rfl ?_
        refine A_iload_n (q := 122) X dX9_isEquivalent_121 rfl rfl ?_
        refine A_iald (q := 123) (h := 58) (i) X dX9_isEquivalent_122 (by omega) h58 (by omega) (by omega) (by decide) rfl ?_
        rw [hFa i (by omega)]
        refine A_aload_n (q := 124) X dX9_isEquivalent_123 rfl rfl ?_
        refine A_getf (q := 127) X fX9_19 dX9_isEquivalent_124 (by omega) h55 rfl rfl ?_
        refine A_iload_n (q := 128) X dX9_isEquivalent_127 rfl rfl ?_
        refine A_iald (q := 129) (h := 59) (i) X dX9_isEquivalent_128 (by omega) h59 (by omega) (by omega) (by decide) rfl ?_
        rw [hFb i (by omega)]
        refine A_icmp_ne (q := 132) (t := 136) X dX9_isEquivalent_129 (by omega) (by omega) rfl rfl (fun hb129 => ?_) (fun hb129 => ?_)
        · refine A_iconst (q := 137) X dX9_isEquivalent_136 rfl ?_
          refine A_istore_n (q := 138) X dX9_isEquivalent_137 (by decide) (okP_n rfl) rfl ?_
          refine A_iinc (q := 141) X dX9_isEquivalent_138 rfl (by decide) (okP_s rfl rfl) rfl ?_
          refine A_goto (q := 101) X dX9_isEquivalent_141 rfl ?_
          exact AW.loc (sS rfl (sN (sS (congrArg (fun z => some (Value.int z)) (show zI 0 = zI (if (a.length = b.length ∧ a.take (i + 1) = b.take (i + 1)) then 1 else 0) from zb0 (fun z => hb129 ((tk_iff (by omega) (by omega)).mp z.2).2))) (sZ rfl (by omega) sE)))) (ih (i + 1) (by omega) (by omega))
        · refine A_iconst (q := 133) X dX9_isEquivalent_132 rfl ?_
          refine A_goto (q := 137) X dX9_isEquivalent_133 rfl ?_
          refine A_istore_n (q := 138) X dX9_isEquivalent_137 (by decide) (okP_n rfl) rfl ?_
          refine A_iinc (q := 141) X dX9_isEquivalent_138 rfl (by decide) (okP_s rfl rfl) rfl ?_
          refine A_goto (q := 101) X dX9_isEquivalent_141 rfl ?_
          exact AW.loc (sS rfl (sN (sS (congrArg (fun z => some (Value.int z)) (show zI 1 = zI (if (a.length = b.length ∧ a.take (i + 1) = b.take (i + 1)) then 1 else 0) from zb1 ⟨hab, (tk_iff (by omega) (by omega)).mpr ⟨hb114.2, by omega⟩⟩)) (sZ rfl (by omega) sE)))) (ih (i + 1) (by omega) (by omega))
set_option maxRecDepth 100000 in
set_option maxHeartbeats 4000000 in
theorem c_X9_isEquivalent {l : Launch} {G : Gm} {c : HP} {tm x : List Int} {hs : List (List Int)} {s0 s1 : List Int} {o : List (Int × Int)} {sd : Int64} {p : Int} (hG : injG G) (hpr : rg p) (hW : WM G c (tm, x, hs, s0, s1, o, sd)) : AMet l G yX9_isEquivalent cX9_isEquivalent 4 ((some .int)) (rmR 6 138) [.ref (G.1 55), .int (zI p)] c (Qi (fun v c' => v = zI (fEquiv p (tm, x, hs, s0, s1, o, sd)).1 ∧ WM G c' (fEquiv p (tm, x, hs, s0, s1, o, sd)).2 ∧ (∀ k, k < 55 → c' k = c k))) := by
  refine AMet.of (vl := [some (.ref (G.1 55)), some (.int (zI p))]) (by decide) hG (Nat.le_of_ble_eq_true rfl) rfl ?_
  intro K X
  have X : Fx l G K cX9_isEquivalent 4 RX9 ((some .int)) (rmR 6 138) := X
  obtain ⟨hN, ⟨th, tw, pk, h55, htw⟩, hX, hT, hgd, hR8, hR9, hO, hH, hV, hB, hSc, hWd⟩ := hW
  dsimp only at h55 hX hT hgd hH hV hB
  have hl0 := hT.len
  have hxl := hX.1
  have hhl := hH.1
  have hol := hB.1
  have hV0 := hV
  obtain ⟨FS, U, h62, h63, hV1, hV2⟩ := hV0
  refine A_aload_n (q := 1) X dX9_isEquivalent_0 rfl rfl ?_
  refine A_iconst (q := 2) X dX9_isEquivalent_1 rfl ?_
  refine A_putf (q := 5) X pX9_59 dX9_isEquivalent_2 (by omega) h55 (Nat.le_of_ble_eq_true rfl) rfl rfl rfl ?_
  refine A_iload_n (q := 6) X dX9_isEquivalent_5 rfl rfl ?_
  refine A_i2l (q := 7) X dX9_isEquivalent_6 rfl ?_
  refine A_lconst (q := 8) (v := 0) X dX9_isEquivalent_7 rfl rfl ?_
  refine A_lconst (q := 9) (v := 1) X dX9_isEquivalent_8 rfl rfl ?_
  refine A_S3i (q := 12) X (c_inZ (a := p) (b := 0) (d := 1) hG rfl (by decide) (by decide) (by omega) (by omega) (by omega)) mX9_in kX9_114 dX9_isEquivalent_9 (by decide) (Nat.le_of_ble_eq_true rfl) rfl (fun vq_3 cq_2 hq_1 => ?_)
  obtain ⟨rfl, hq_1⟩ := hq_1
  obtain rfl := hq_1.symm
  refine A_bne (q := 15) (t := 17) X dX9_isEquivalent_12 rfl rfl (fun hb12 => ?_) (fun hb12 => ?_)
  · obtain ⟨sl, rfl⟩ : ∃ sl : Nat, p = ((sl : Nat) : Int) := ⟨p.toNat, by omega⟩
    have hsl : sl ≤ 1 := by omega
    have hq : SlR FS U sl (sltS (tm, x, hs, s0, s1, o, sd) ((sl : Nat) : Int)) := sl_get hsl hV1 hV2
    obtain ⟨q, hs9⟩ : ∃ q, sltS (tm, x, hs, s0, s1, o, sd) ((sl : Nat) : Int) = q := ⟨_, rfl⟩
    rw [hs9] at hq
    have hU01 := hq.b01
    refine A_aload_n (q := 18) X dX9_isEquivalent_17 rfl rfl ?_
    refine A_getf (q := 21) X fX9_31 dX9_isEquivalent_18 (by omega) lk_eq rfl rfl ?_
    refine A_iload_n (q := 22) X dX9_isEquivalent_21 rfl rfl ?_
    refine A_zald (q := 23) (h := 63) (sl) X dX9_isEquivalent_22 (by omega) (lk_ne (by omega) h63) (by omega) (by omega) (by decide) rfl ?_
    refine A_if_ne (q := 26) (t := 29) X dX9_isEquivalent_23 (by omega) rfl rfl (fun hb23 => ?_) (fun hb23 => ?_)
    · have hqn := hq.used hb23
      obtain ⟨hql, hqS, hqF⟩ := hq.2.1 hqn
      have hgq : Gd q := hq.2.2.resolve_left hqn
      have hqp := hgq.pos
      refine A_aload_n (q := 30) X dX9_isEquivalent_29 rfl rfl ?_
      refine A_getf (q := 33) X fX9_13 dX9_isEquivalent_30 (by omega) lk_eq rfl rfl ?_
      refine A_aload_n (q := 34) X dX9_isEquivalent_33 rfl rfl ?_
      refine A_getf (q := 37) X fX9_16 dX9_isEquivalent_34 (by omega) lk_eq rfl rfl ?_
      refine A_S2v (q := 40) X (c_assign hG (hT.keep (lk_ne (by omega) rfl)) (hR8.keep (lk_ne (by omega) rfl)) (by decide)) mX9_assign kX9_100 dX9_isEquivalent_37 (by decide) (Nat.le_of_ble_eq_true rfl) rfl (fun cq_5 hq_4 => ?_)
      obtain ⟨hW8, hfw⟩ := hq_4
      refine A_aload_n (q := 41) X dX9_isEquivalent_40 rfl rfl ?_
      refine A_iload_n (q := 42) X dX9_isEquivalent_41 rfl rfl ?_
      refine A_aload_n (q := 43) X dX9_isEquivalent_42 rfl rfl ?_
      refine A_getf (q := 46) X fX9_19 dX9_isEquivalent_43 (by omega) ((hfw _ (by omega)).trans lk_eq) rfl rfl ?_
      refine A_V2v (q := 49) X (c_X9_takeSlot (sl := sl) (t := q) hG hN (((hfw _ (by omega)).trans lk_eq)) (hR9.keep ((hfw 59 (by omega)).trans (lk_ne (by omega) rfl))) (by decide) (((hfw _ (by omega)).trans (lk_ne (by omega) h62))) hsl hql hqS hqF) mX9_takeSlot kX9_149 dX9_isEquivalent_46 (by omega) ((hfw _ (by omega)).trans lk_eq) rfl (by decide) (Nat.le_of_ble_eq_true rfl) rfl (fun cq_7 hq_6 => ?_)
      obtain ⟨hTq, hfq⟩ := hq_6
      obtain ⟨-, -, Fq, hcq, hSq, hFq⟩ := (id hTq : Mt G _ 59 q)
      refine A_aload_n (q := 50) X dX9_isEquivalent_49 rfl rfl ?_
      refine A_aload_n (q := 51) X dX9_isEquivalent_50 rfl rfl ?_
      refine A_getf (q := 54) X fX9_16 dX9_isEquivalent_51 (by omega) ((hfq _ (by omega)).trans ((hfw _ (by omega)).trans lk_eq)) rfl rfl ?_
      refine A_V1i (q := 57) X (c_X9_normalize hG hN (((hfq _ (by omega)).trans ((hfw _ (by omega)).trans lk_eq))) (by decide) (hW8.keep (((hfq 58 (by omega)).trans rfl))) hgd (hO.keep ((hfq 60 (by omega)).trans ((hfw 60 (by omega)).trans (lk_ne (by omega) rfl)))) (hSc.keep ((hfq 66 (by omega)).trans ((hfw 66 (by omega)).trans (lk_ne (by omega) rfl))) ((hfq 67 (by omega)).trans ((hfw 67 (by omega)).trans (lk_ne (by omega) rfl))) ((hfq 68 (by omega)).trans ((hfw 68 (by omega)).trans (lk_ne (by omega) rfl))))) mX9_normalize kX9_157 dX9_isEquivalent_54 (by omega) ((hfq _ (by omega)).trans ((hfw _ (by omega)).trans lk_eq)) rfl (by decide) (Nat.le_of_ble_eq_true rfl) rfl (fun vq_10 cq_9 hq_8 => ?_)
      obtain ⟨rfl, hNa, hOa, hSca, hfa⟩ := hq_8
      obtain ⟨-, hla, Fa, hca, hSa, hFa⟩ := (id hNa : Mt G _ 58 (nrm tm))
      have hga : Gd (nrm tm) := Gd_run 0 200 tm hgd
      refine A_beq (q := 60) (t := 71) X dX9_isEquivalent_57 rfl rfl (fun hb57 => ?_) (fun hb57 => ?_)
      · refine A_bipush (q := 73) X dX9_isEquivalent_71 (by decide) rfl ?_
        have e9 : fEquiv ((sl : Nat) : Int) (tm, x, hs, s0, s1, o, sd) = (-9, (tm, x, hs, s0, s1, o, sd)) := by unfold fEquiv; rw [if_pos (by omega), hs9, if_neg (by omega)]; rw [if_neg (fun z => hb57 z.1)]
        exact A_ireturn X dX9_isEquivalent_73 ⟨by rw [e9], by rw [e9]; exact ⟨hN, ⟨_, _, _, ((hfa _ (by omega) (by omega) (by omega) (by omega) (by omega)).trans ((hfq _ (by omega)).trans ((hfw _ (by omega)).trans lk_eq))), htw⟩, (hX.keep ((hfa 56 (by omega) (by omega) (by omega) (by omega) (by omega)).trans ((hfq 56 (by omega)).trans ((hfw 56 (by omega)).trans (lk_ne (by omega) rfl))))), (hT.keep ((hfa 57 (by omega) (by omega) (by omega) (by omega) (by omega)).trans ((hfq 57 (by omega)).trans ((hfw 57 (by omega)).trans (lk_ne (by omega) rfl))))), hgd, hNa.mr, (hTq.mr.keep ((hfa 59 (by omega) (by omega) (by omega) (by omega) (by omega)).trans rfl)), hOa, (hH.keep ((hfa 61 (by omega) (by omega) (by omega) (by omega) (by omega)).trans ((hfq 61 (by omega)).trans ((hfw 61 (by omega)).trans (lk_ne (by omega) rfl))))), (hV.keep ((hfa 62 (by omega) (by omega) (by omega) (by omega) (by omega)).trans ((hfq 62 (by omega)).trans ((hfw 62 (by omega)).trans (lk_ne (by omega) rfl)))) ((hfa 63 (by omega) (by omega) (by omega) (by omega) (by omega)).trans ((hfq 63 (by omega)).trans ((hfw 63 (by omega)).trans (lk_ne (by omega) rfl))))), (hB.keep ((hfa 64 (by omega) (by omega) (by omega) (by omega) (by omega)).trans ((hfq 64 (by omega)).trans ((hfw 64 (by omega)).trans (lk_ne (by omega) rfl)))) ((hfa 65 (by omega) (by omega) (by omega) (by omega) (by omega)).trans ((hfq 65 (by omega)).trans ((hfw 65 (by omega)).trans (lk_ne (by omega) rfl))))), hSca, (hWd.keep ((hfa 69 (by omega) (by omega) (by omega) (by omega) (by omega)).trans ((hfq 69 (by omega)).trans ((hfw 69 (by omega)).trans (lk_ne (by omega) rfl)))) ((hfa 70 (by omega) (by omega) (by omega) (by omega) (by omega)).trans ((hfq 70 (by omega)).trans ((hfw 70 (by omega)).trans (lk_ne (by omega) rfl)))) ((hfa 71 (by omega) (by omega) (by omega) (by omega) (by omega)).trans ((hfq 71 (by omega)).trans ((hfw 71 (by omega)).trans (lk_ne (by omega) rfl)))))⟩, (fun k n0 => ((hfa k (by omega) (by omega) (by omega) (by omega) (by omega)).trans ((hfq k (by omega)).trans ((hfw k (by omega)).trans (lk_ne (by omega) rfl)))))⟩
      · refine A_aload_n (q := 61) X dX9_isEquivalent_60 rfl rfl ?_
        refine A_aload_n (q := 62) X dX9_isEquivalent_61 rfl rfl ?_
        refine A_getf (q := 65) X fX9_19 dX9_isEquivalent_62 (by omega) ((hfa _ (by omega) (by omega) (by omega) (by omega) (by omega)).trans ((hfq _ (by omega)).trans ((hfw _ (by omega)).trans lk_eq))) rfl rfl ?_
        refine A_V1i (q := 68) X (c_X9_normalize hG hN (((hfa _ (by omega) (by omega) (by omega) (by omega) (by omega)).trans ((hfq _ (by omega)).trans ((hfw _ (by omega)).trans lk_eq)))) (by decide) (hTq.keep (((hfa 59 (by omega) (by omega) (by omega) (by omega) (by omega)).trans rfl))) hgq hOa hSca) mX9_normalize kX9_157 dX9_isEquivalent_65 (by omega) ((hfa _ (by omega) (by omega) (by omega) (by omega) (by omega)).trans ((hfq _ (by omega)).trans ((hfw _ (by omega)).trans lk_eq))) rfl (by decide) (Nat.le_of_ble_eq_true rfl) rfl (fun vq_13 cq_12 hq_11 => ?_)
        obtain ⟨rfl, hNb, hOb, hScb, hfb⟩ := hq_11
        obtain ⟨-, hlb, Fb, hcb, hSb, hFb⟩ := (id hNb : Mt G _ 59 (nrm q))
        have hgb : Gd (nrm q) := Gd_run 0 200 q hgq
        refine A_bne (q := 71) (t := 74) X dX9_isEquivalent_68 rfl rfl (fun hb68 => ?_) (fun hb68 => ?_)
        · refine A_aload_n (q := 75) X dX9_isEquivalent_74 rfl rfl ?_
          refine A_getf (q := 78) X fX9_16 dX9_isEquivalent_75 (by omega) ((hfb _ (by omega) (by omega) (by omega) (by omega) (by omega)).trans ((hfa _ (by omega) (by omega) (by omega) (by omega) (by omega)).trans ((hfq _ (by omega)).trans ((hfw _ (by omega)).trans lk_eq)))) rfl rfl ?_
          refine A_sipush (q := 81) X dX9_isEquivalent_78 (by decide) rfl ?_
          refine A_iald (q := 82) (h := 58) 200 X dX9_isEquivalent_81 (by omega) ((hfb _ (by omega) (by omega) (by omega) (by omega) (by omega)).trans hca) (by omega) (by omega) (by decide) rfl ?_
          rw [hSa]
          refine A_aload_n (q := 83) X dX9_isEquivalent_82 rfl rfl ?_
          refine A_getf (q := 86) X fX9_19 dX9_isEquivalent_83 (by omega) ((hfb _ (by omega) (by omega) (by omega) (by omega) (by omega)).trans ((hfa _ (by omega) (by omega) (by omega) (by omega) (by omega)).trans ((hfq _ (by omega)).trans ((hfw _ (by omega)).trans lk_eq)))) rfl rfl ?_
          refine A_sipush (q := 89) X dX9_isEquivalent_86 (by decide) rfl ?_
          refine A_iald (q := 90) (h := 59) 200 X dX9_isEquivalent_89 (by omega) hcb (by omega) (by omega) (by decide) rfl ?_
          rw [hSb]
          refine A_icmp_ne (q := 93) (t := 97) X dX9_isEquivalent_90 (by omega) (by omega) rfl rfl (fun hb90 => ?_) (fun hb90 => ?_)
          · refine A_iconst (q := 98) X dX9_isEquivalent_97 rfl ?_
            refine A_istore_n (q := 99) X dX9_isEquivalent_98 (by decide) (okP_s rfl rfl) rfl ?_
            refine A_iconst (q := 100) X dX9_isEquivalent_99 rfl ?_
            refine A_istore_n (q := 101) X dX9_isEquivalent_100 (by decide) (okP_s rfl rfl) rfl ?_
            refine AW.loc (sS rfl (sN (sS (congrArg (fun z => some (Value.int z)) (show zI 0 = zI (if ((nrm tm).length = (nrm q).length ∧ (nrm tm).take 0 = (nrm q).take 0) then 1 else 0) from zb0 (fun z => absurd z.1 (by omega)))) (sZ rfl rfl sE)))) (AW.mono (lp_X9_isEquivalent (a := nrm tm) (b := nrm q) X hG hN (((hfb _ (by omega) (by omega) (by omega) (by omega) (by omega)).trans ((hfa _ (by omega) (by omega) (by omega) (by omega) (by omega)).trans ((hfq _ (by omega)).trans ((hfw _ (by omega)).trans lk_eq))))) (((hfb _ (by omega) (by omega) (by omega) (by omega) (by omega)).trans hca)) (hcb) hla hlb hSa hFa hFb hga hgb _ 0 (Nat.lt_succ_self _) (Nat.zero_le _)) ?_)
            rintro r c9 ⟨v9, hv9, rfl, rfl⟩
            have e9 : fEquiv ((sl : Nat) : Int) (tm, x, hs, s0, s1, o, sd) = ((if nrm tm = nrm q then 1 else 0), (tm, x, hs, s0, s1, o, sd)) := by unfold fEquiv; rw [if_pos (by omega), hs9, if_neg (by omega)]; rw [if_pos ⟨hb57, hb68⟩]; split <;> rfl
            exact ⟨_, hv9, by rw [e9], by rw [e9]; exact ⟨hN, ⟨_, _, _, ((hfb _ (by omega) (by omega) (by omega) (by omega) (by omega)).trans ((hfa _ (by omega) (by omega) (by omega) (by omega) (by omega)).trans ((hfq _ (by omega)).trans ((hfw _ (by omega)).trans lk_eq)))), htw⟩, (hX.keep ((hfb 56 (by omega) (by omega) (by omega) (by omega) (by omega)).trans ((hfa 56 (by omega) (by omega) (by omega) (by omega) (by omega)).trans ((hfq 56 (by omega)).trans ((hfw 56 (by omega)).trans (lk_ne (by omega) rfl)))))), (hT.keep ((hfb 57 (by omega) (by omega) (by omega) (by omega) (by omega)).trans ((hfa 57 (by omega) (by omega) (by omega) (by omega) (by omega)).trans ((hfq 57 (by omega)).trans ((hfw 57 (by omega)).trans (lk_ne (by omega) rfl)))))), hgd, (hNa.mr.keep ((hfb 58 (by omega) (by omega) (by omega) (by omega) (by omega)).trans rfl)), hNb.mr, hOb, (hH.keep ((hfb 61 (by omega) (by omega) (by omega) (by omega) (by omega)).trans ((hfa 61 (by omega) (by omega) (by omega) (by omega) (by omega)).trans ((hfq 61 (by omega)).trans ((hfw 61 (by omega)).trans (lk_ne (by omega) rfl)))))), (hV.keep ((hfb 62 (by omega) (by omega) (by omega) (by omega) (by omega)).trans ((hfa 62 (by omega) (by omega) (by omega) (by omega) (by omega)).trans ((hfq 62 (by omega)).trans ((hfw 62 (by omega)).trans (lk_ne (by omega) rfl))))) ((hfb 63 (by omega) (by omega) (by omega) (by omega) (by omega)).trans ((hfa 63 (by omega) (by omega) (by omega) (by omega) (by omega)).trans ((hfq 63 (by omega)).trans ((hfw 63 (by omega)).trans (lk_ne (by omega) rfl)))))), (hB.keep ((hfb 64 (by omega) (by omega) (by omega) (by omega) (by omega)).trans ((hfa 64 (by omega) (by omega) (by omega) (by omega) (by omega)).trans ((hfq 64 (by omega)).trans ((hfw 64 (by omega)).trans (lk_ne (by omega) rfl))))) ((hfb 65 (by omega) (by omega) (by omega) (by omega) (by omega)).trans ((hfa 65 (by omega) (by omega) (by omega) (by omega) (by omega)).trans ((hfq 65 (by omega)).trans ((hfw 65 (by omega)).trans (lk_ne (by omega) rfl)))))), hScb, (hWd.keep ((hfb 69 (by omega) (by omega) (by omega) (by omega) (by omega)).trans ((hfa 69 (by omega) (by omega) (by omega) (by omega) (by omega)).trans ((hfq 69 (by omega)).trans ((hfw 69 (by omega)).trans (lk_ne (by omega) rfl))))) ((hfb 70 (by omega) (by omega) (by omega) (by omega) (by omega)).trans ((hfa 70 (by omega) (by omega) (by omega) (by omega) (by omega)).trans ((hfq 70 (by omega)).trans ((hfw 70 (by omega)).trans (lk_ne (by omega) rfl))))) ((hfb 71 (by omega) (by omega) (by omega) (by omega) (by omega)).trans ((hfa 71 (by omega) (by omega) (by omega) (by omega) (by omega)).trans ((hfq 71 (by omega)).trans ((hfw 71 (by omega)).trans (lk_ne (by omega) rfl))))))⟩, (fun k n0 => ((hfb k (by omega) (by omega) (by omega) (by omega) (by omega)).trans ((hfa k (by omega) (by omega) (by omega) (by omega) (by omega)).trans ((hfq k (by omega)).trans ((hfw k (by omega)).trans (lk_ne (by omega) rfl))))))⟩
          · refine A_iconst (q := 94) X dX9_isEquivalent_93 rfl ?_
            refine A_goto (q := 98) X dX9_isEquivalent_94 rfl ?_
            refine A_istore_n (q := 99) X dX9_isEquivalent_98 (by decide) (okP_s rfl rfl) rfl ?_
            refine A_iconst (q := 100) X dX9_isEquivalent_99 rfl ?_
            refine A_istore_n (q := 101) X dX9_isEquivalent_100 (by decide) (okP_s rfl rfl) rfl ?_
            refine AW.loc (sS rfl (sN (sS (congrArg (fun z => some (Value.int z)) (show zI 1 = zI (if ((nrm tm).length = (nrm q).length ∧ (nrm tm).take 0 = (nrm q).take 0) then 1 else 0) from zb1 ⟨(by omega), rfl⟩)) (sZ rfl rfl sE)))) (AW.mono (lp_X9_isEquivalent (a := nrm tm) (b := nrm q) X hG hN (((hfb _ (by omega) (by omega) (by omega) (by omega) (by omega)).trans ((hfa _ (by omega) (by omega) (by omega) (by omega) (by omega)).trans ((hfq _ (by omega)).trans ((hfw _ (by omega)).trans lk_eq))))) (((hfb _ (by omega) (by omega) (by omega) (by omega) (by omega)).trans hca)) (hcb) hla hlb hSa hFa hFb hga hgb _ 0 (Nat.lt_succ_self _) (Nat.zero_le _)) ?_)
            rintro r c9 ⟨v9, hv9, rfl, rfl⟩
            have e9 : fEquiv ((sl : Nat) : Int) (tm, x, hs, s0, s1, o, sd) = ((if nrm tm = nrm q then 1 else 0), (tm, x, hs, s0, s1, o, sd)) := by unfold fEquiv; rw [if_pos (by omega), hs9, if_neg (by omega)]; rw [if_pos ⟨hb57, hb68⟩]; split <;> rfl
            exact ⟨_, hv9, by rw [e9], by rw [e9]; exact ⟨hN, ⟨_, _, _, ((hfb _ (by omega) (by omega) (by omega) (by omega) (by omega)).trans ((hfa _ (by omega) (by omega) (by omega) (by omega) (by omega)).trans ((hfq _ (by omega)).trans ((hfw _ (by omega)).trans lk_eq)))), htw⟩, (hX.keep ((hfb 56 (by omega) (by omega) (by omega) (by omega) (by omega)).trans ((hfa 56 (by omega) (by omega) (by omega) (by omega) (by omega)).trans ((hfq 56 (by omega)).trans ((hfw 56 (by omega)).trans (lk_ne (by omega) rfl)))))), (hT.keep ((hfb 57 (by omega) (by omega) (by omega) (by omega) (by omega)).trans ((hfa 57 (by omega) (by omega) (by omega) (by omega) (by omega)).trans ((hfq 57 (by omega)).trans ((hfw 57 (by omega)).trans (lk_ne (by omega) rfl)))))), hgd, (hNa.mr.keep ((hfb 58 (by omega) (by omega) (by omega) (by omega) (by omega)).trans rfl)), hNb.mr, hOb, (hH.keep ((hfb 61 (by omega) (by omega) (by omega) (by omega) (by omega)).trans ((hfa 61 (by omega) (by omega) (by omega) (by omega) (by omega)).trans ((hfq 61 (by omega)).trans ((hfw 61 (by omega)).trans (lk_ne (by omega) rfl)))))), (hV.keep ((hfb 62 (by omega) (by omega) (by omega) (by omega) (by omega)).trans ((hfa 62 (by omega) (by omega) (by omega) (by omega) (by omega)).trans ((hfq 62 (by omega)).trans ((hfw 62 (by omega)).trans (lk_ne (by omega) rfl))))) ((hfb 63 (by omega) (by omega) (by omega) (by omega) (by omega)).trans ((hfa 63 (by omega) (by omega) (by omega) (by omega) (by omega)).trans ((hfq 63 (by omega)).trans ((hfw 63 (by omega)).trans (lk_ne (by omega) rfl)))))), (hB.keep ((hfb 64 (by omega) (by omega) (by omega) (by omega) (by omega)).trans ((hfa 64 (by omega) (by omega) (by omega) (by omega) (by omega)).trans ((hfq 64 (by omega)).trans ((hfw 64 (by omega)).trans (lk_ne (by omega) rfl))))) ((hfb 65 (by omega) (by omega) (by omega) (by omega) (by omega)).trans ((hfa 65 (by omega) (by omega) (by omega) (by omega) (by omega)).trans ((hfq 65 (by omega)).trans ((hfw 65 (by omega)).trans (lk_ne (by omega) rfl)))))), hScb, (hWd.keep ((hfb 69 (by omega) (by omega) (by omega) (by omega) (by omega)).trans ((hfa 69 (by omega) (by omega) (by omega) (by omega) (by omega)).trans ((hfq 69 (by omega)).trans ((hfw 69 (by omega)).trans (lk_ne (by omega) rfl))))) ((hfb 70 (by omega) (by omega) (by omega) (by omega) (by omega)).trans ((hfa 70 (by omega) (by omega) (by omega) (by omega) (by omega)).trans ((hfq 70 (by omega)).trans ((hfw 70 (by omega)).trans (lk_ne (by omega) rfl))))) ((hfb 71 (by omega) (by omega) (by omega) (by omega) (by omega)).trans ((hfa 71 (by omega) (by omega) (by omega) (by omega) (by omega)).trans ((hfq 71 (by omega)).trans ((hfw 71 (by omega)).trans (lk_ne (by omega) rfl))))))⟩, (fun k n0 => ((hfb k (by omega) (by omega) (by omega) (by omega) (by omega)).trans ((hfa k (by omega) (by omega) (by omega) (by omega) (by omega)).trans ((hfq k (by omega)).trans ((hfw k (by omega)).trans (lk_ne (by omega) rfl))))))⟩
        · refine A_bipush (q := 73) X dX9_isEquivalent_71 (by decide) rfl ?_
          have e9 : fEquiv ((sl : Nat) : Int) (tm, x, hs, s0, s1, o, sd) = (-9, (tm, x, hs, s0, s1, o, sd)) := by unfold fEquiv; rw [if_pos (by omega), hs9, if_neg (by omega)]; rw [if_neg (fun z => hb68 z.2)]
          exact A_ireturn X dX9_isEquivalent_73 ⟨by rw [e9], by rw [e9]; exact ⟨hN, ⟨_, _, _, ((hfb _ (by omega) (by omega) (by omega) (by omega) (by omega)).trans ((hfa _ (by omega) (by omega) (by omega) (by omega) (by omega)).trans ((hfq _ (by omega)).trans ((hfw _ (by omega)).trans lk_eq)))), htw⟩, (hX.keep ((hfb 56 (by omega) (by omega) (by omega) (by omega) (by omega)).trans ((hfa 56 (by omega) (by omega) (by omega) (by omega) (by omega)).trans ((hfq 56 (by omega)).trans ((hfw 56 (by omega)).trans (lk_ne (by omega) rfl)))))), (hT.keep ((hfb 57 (by omega) (by omega) (by omega) (by omega) (by omega)).trans ((hfa 57 (by omega) (by omega) (by omega) (by omega) (by omega)).trans ((hfq 57 (by omega)).trans ((hfw 57 (by omega)).trans (lk_ne (by omega) rfl)))))), hgd, (hNa.mr.keep ((hfb 58 (by omega) (by omega) (by omega) (by omega) (by omega)).trans rfl)), hNb.mr, hOb, (hH.keep ((hfb 61 (by omega) (by omega) (by omega) (by omega) (by omega)).trans ((hfa 61 (by omega) (by omega) (by omega) (by omega) (by omega)).trans ((hfq 61 (by omega)).trans ((hfw 61 (by omega)).trans (lk_ne (by omega) rfl)))))), (hV.keep ((hfb 62 (by omega) (by omega) (by omega) (by omega) (by omega)).trans ((hfa 62 (by omega) (by omega) (by omega) (by omega) (by omega)).trans ((hfq 62 (by omega)).trans ((hfw 62 (by omega)).trans (lk_ne (by omega) rfl))))) ((hfb 63 (by omega) (by omega) (by omega) (by omega) (by omega)).trans ((hfa 63 (by omega) (by omega) (by omega) (by omega) (by omega)).trans ((hfq 63 (by omega)).trans ((hfw 63 (by omega)).trans (lk_ne (by omega) rfl)))))), (hB.keep ((hfb 64 (by omega) (by omega) (by omega) (by omega) (by omega)).trans ((hfa 64 (by omega) (by omega) (by omega) (by omega) (by omega)).trans ((hfq 64 (by omega)).trans ((hfw 64 (by omega)).trans (lk_ne (by omega) rfl))))) ((hfb 65 (by omega) (by omega) (by omega) (by omega) (by omega)).trans ((hfa 65 (by omega) (by omega) (by omega) (by omega) (by omega)).trans ((hfq 65 (by omega)).trans ((hfw 65 (by omega)).trans (lk_ne (by omega) rfl)))))), hScb, (hWd.keep ((hfb 69 (by omega) (by omega) (by omega) (by omega) (by omega)).trans ((hfa 69 (by omega) (by omega) (by omega) (by omega) (by omega)).trans ((hfq 69 (by omega)).trans ((hfw 69 (by omega)).trans (lk_ne (by omega) rfl))))) ((hfb 70 (by omega) (by omega) (by omega) (by omega) (by omega)).trans ((hfa 70 (by omega) (by omega) (by omega) (by omega) (by omega)).trans ((hfq 70 (by omega)).trans ((hfw 70 (by omega)).trans (lk_ne (by omega) rfl))))) ((hfb 71 (by omega) (by omega) (by omega) (by omega) (by omega)).trans ((hfa 71 (by omega) (by omega) (by omega) (by omega) (by omega)).trans ((hfq 71 (by omega)).trans ((hfw 71 (by omega)).trans (lk_ne (by omega) rfl))))))⟩, (fun k n0 => ((hfb k (by omega) (by omega) (by omega) (by omega) (by omega)).trans ((hfa k (by omega) (by omega) (by omega) (by omega) (by omega)).trans ((hfq k (by omega)).trans ((hfw k (by omega)).trans (lk_ne (by omega) rfl))))))⟩
    · have hqz := hq.free (by omega)
      refine A_bipush (q := 28) X dX9_isEquivalent_26 (by decide) rfl ?_
      have e9 : fEquiv ((sl : Nat) : Int) (tm, x, hs, s0, s1, o, sd) = (-3, (tm, x, hs, s0, s1, o, sd)) := by unfold fEquiv; rw [if_pos (by omega), hs9, if_pos hqz]
      exact A_ireturn X dX9_isEquivalent_28 ⟨by rw [e9], by rw [e9]; exact ⟨hN, ⟨_, _, _, lk_eq, htw⟩, (hX.keep (lk_ne (by omega) rfl)), (hT.keep (lk_ne (by omega) rfl)), hgd, (hR8.keep (lk_ne (by omega) rfl)), (hR9.keep (lk_ne (by omega) rfl)), (hO.keep (lk_ne (by omega) rfl)), (hH.keep (lk_ne (by omega) rfl)), (hV.keep (lk_ne (by omega) rfl) (lk_ne (by omega) rfl)), (hB.keep (lk_ne (by omega) rfl) (lk_ne (by omega) rfl)), (hSc.keep (lk_ne (by omega) rfl) (lk_ne (by omega) rfl) (lk_ne (by omega) rfl)), (hWd.keep (lk_ne (by omega) rfl) (lk_ne (by omega) rfl) (lk_ne (by omega) rfl))⟩, (fun k n0 => (lk_ne (by omega) rfl))⟩
  · refine A_iconst (q := 16) X dX9_isEquivalent_15 rfl ?_
    have e9 : fEquiv p (tm, x, hs, s0, s1, o, sd) = (-1, (tm, x, hs, s0, s1, o, sd)) := by unfold fEquiv; rw [if_neg (by omega)]
    exact A_ireturn X dX9_isEquivalent_16 ⟨by rw [e9], by rw [e9]; exact ⟨hN, ⟨_, _, _, lk_eq, htw⟩, (hX.keep (lk_ne (by omega) rfl)), (hT.keep (lk_ne (by omega) rfl)), hgd, (hR8.keep (lk_ne (by omega) rfl)), (hR9.keep (lk_ne (by omega) rfl)), (hO.keep (lk_ne (by omega) rfl)), (hH.keep (lk_ne (by omega) rfl)), (hV.keep (lk_ne (by omega) rfl) (lk_ne (by omega) rfl)), (hB.keep (lk_ne (by omega) rfl) (lk_ne (by omega) rfl)), (hSc.keep (lk_ne (by omega) rfl) (lk_ne (by omega) rfl) (lk_ne (by omega) rfl)), (hWd.keep (lk_ne (by omega) rfl) (lk_ne (by omega) rfl) (lk_ne (by omega) rfl))⟩, (fun k n0 => (lk_ne (by omega) rfl))⟩
set_option maxRecDepth 100000 in
set_option maxHeartbeats 4000000 in
theorem lp2_X9_possibleStrategies {l : Launch} {G : Gm} {K : Cx} {c0 : HP} {s : Nat} {Q : Option Value → HP → Prop} {tm : List Int} {o : List (Int × Int)} {FO VO : Nat → Int} {th ts rmb tw pk : Int} {sd : Int64} (X : Fx l G K cX9_possibleStrategies 5 RX9 ((some .int)) (rmR 5 117)) (hG : injG G) (hN : G.2.1 = 72) (h055 : c0 55 = ob9 G th ts rmb ((o.length : Nat) : Int) sd tw pk) (hT0 : Mt G c0 57 tm) (hgd : Gd tm) (hol : o.length ≤ 6) (hor : ∀ q ∈ o, (0 ≤ q.1 ∧ q.1 ≤ 50) ∧ 1 ≤ q.2 ∧ q.2 ≤ 200) (h064 : c0 64 = aI G 6 FO) (h065 : c0 65 = aI G 6 VO) (hFV : ∀ k, k < o.length → o.getD k (0, 0) = (FO k, VO k)) (hs : s < 4) (kk : ∀ c2 : HP, Mr G c2 58 → Mr G c2 60 → Sc G c2 → (∀ k, k ≠ 58 → k ≠ 60 → k ≠ 66 → k ≠ 67 → k ≠ 68 → c2 k = c0 k) → AW G K Q 90 (mkL [some (.ref (G.1 55)), some (.int (psB tm o s)), some (.int (zI ((s : Nat) : Int))), some (.int (zI (if hold tm o ((s : Nat) : Int) then 1 else 0 : Int))), none]) [] c2) : ∀ (n : Nat) (i : Nat) (c : HP), o.length - i < n → i ≤ o.length → Mr G c 58 → Mr G c 60 → Sc G c → (∀ k, k ≠ 58 → k ≠ 60 → k ≠ 66 → k ≠ 67 → k ≠ 68 → c k = c0 k) → AW G K (Q) 19 (mkL [some (.ref (G.1 55)), some (.int (psB tm o s)), some (.int (zI ((s : Nat) : Int))), some (.int (zI (if hold tm (o.take i) ((s : Nat) : Int) then 1 else 0 : Int))), some (.int (zI ((i : Nat) : Int)))]) [] c := by
  intro n
  induction n with
  | zero => intro i c hmz; exact absurd hmz (Nat.not_lt_zero _)
  | succ n ih =>
    intro i c hmz hi hR8 hO hSc hf0
    have h55 := (hf0 55 (by decide) (by decide) (by decide) (by decide) (by decide)).trans h055
    have h64 := (hf0 64 (by decide) (by decide) (by decide) (by decide) (by decide)).trans h064
    have h65 := (hf0 65 (by decide) (by decide) (by decide) (by decide) (by decide)).trans h065
    have hT := hT0.keep (hf0 57 (by decide) (by decide) (by decide) (by decide) (by decide))
    refine A_iload (q := 21) X dX9_possibleStrategies_19 rfl rfl ?_
    refine A_aload_n (q := 22) X dX9_possibleStrategies_21 rfl rfl ?_
    refine A_getf (q := 25) X fX9_205 dX9_possibleStrategies_22 (by omega) h55 rfl rfl ?_
    refine A_icmp_ge (q := 28) (t := 90) X dX9_possibleStrategies_25 (by omega) (by omega) rfl rfl (fun hb25 => ?_) (fun hb25 => ?_)
    · have eo : o.take i = o := List.take_of_length_le (by omega)
      rw [eo]
      exact AW.loc (sS rfl (sS rfl (sS rfl (sS rfl (sN sE))))) (kk c hR8 hO hSc hf0)
    · have hFi := hFV i (by omega)
      have hoi := hor _ (getD2_mem (o := o) (k := i) (by omega))
      rw [hFi] at hoi
      dsimp only at hoi
      have hhs := hold_s (l := tm) (s := ((s : Nat) : Int)) (k := i) (o := o) (by omega)
      rw [hFi] at hhs
      dsimp only at hhs
      refine A_aload_n (q := 29) X dX9_possibleStrategies_28 rfl rfl ?_
      refine A_getf (q := 32) X fX9_13 dX9_possibleStrategies_29 (by omega) h55 rfl rfl ?_
      refine A_aload_n (q := 33) X dX9_possibleStrategies_32 rfl rfl ?_
      refine A_getf (q := 36) X fX9_16 dX9_possibleStrategies_33 (by omega) h55 rfl rfl ?_
      refine A_S2v (q := 39) X (c_assign hG hT hR8 (by decide)) mX9_assign kX9_100 dX9_possibleStrategies_36 (by decide) (Nat.le_of_ble_eq_true rfl) rfl (fun cq_2 hq_1 => ?_)
      obtain ⟨hW8, hfw⟩ := hq_1
      refine A_aload_n (q := 40) X dX9_possibleStrategies_39 rfl rfl ?_
      refine A_aload_n (q := 41) X dX9_possibleStrategies_40 rfl rfl ?_
      refine A_getf (q := 44) X fX9_16 dX9_possibleStrategies_41 (by omega) ((hfw _ (by omega)).trans h55) rfl rfl ?_
      refine A_iload_n (q := 45) X dX9_possibleStrategies_44 rfl rfl ?_
      refine A_aload_n (q := 46) X dX9_possibleStrategies_45 rfl rfl ?_
      refine A_getf (q := 49) X fX9_35 dX9_possibleStrategies_46 (by omega) ((hfw _ (by omega)).trans h55) rfl rfl ?_
      refine A_iload (q := 51) X dX9_possibleStrategies_49 rfl rfl ?_
      refine A_iald (q := 52) (h := 64) (i) X dX9_possibleStrategies_51 (by omega) ((hfw _ (by omega)).trans h64) (by omega) (by omega) (by decide) rfl ?_
      rw [show zI (FO i) = zI (((FO i).toNat : Nat) : Int) from congrArg zI (by omega)]
      refine A_V3i (q := 55) X (c_X9_runOn (n0 := (FO i).toNat) hG hN (((hfw _ (by omega)).trans h55)) (by decide) (by omega) (by omega) hW8 hgd (hO.keep (((hfw 60 (by omega)).trans rfl))) (hSc.keep (((hfw 66 (by omega)).trans rfl)) (((hfw 67 (by omega)).trans rfl)) (((hfw 68 (by omega)).trans rfl)))) mX9_runOn kX9_104 dX9_possibleStrategies_52 (by omega) ((hfw _ (by omega)).trans h55) rfl (by decide) (Nat.le_of_ble_eq_true rfl) rfl (fun vq_5 cq_4 hq_3 => ?_)
      obtain ⟨rfl, hW9, hO8, hSc8, hf8⟩ := hq_3
      obtain ⟨-, hl8, F8, h588, hS8, hF8⟩ := (id hW9 : Mt G _ 58 _)
      refine A_pop (q := 56) X dX9_possibleStrategies_55 rfl rfl ?_
      refine A_iload_n (q := 57) X dX9_possibleStrategies_56 rfl rfl ?_
      refine A_beq (q := 60) (t := 82) X dX9_possibleStrategies_57 rfl rfl (fun hb57 => ?_) (fun hb57 => ?_)
      · refine A_iconst (q := 83) X dX9_possibleStrategies_82 rfl ?_
        refine A_istore_n (q := 84) X dX9_possibleStrategies_83 (by decide) (okP_s rfl rfl) rfl ?_
        refine A_iinc (q := 87) X dX9_possibleStrategies_84 rfl (by decide) (okP_s rfl rfl) rfl ?_
        refine A_goto (q := 19) X dX9_possibleStrategies_87 rfl ?_
        exact AW.loc (sS rfl (sS rfl (sS rfl (sS (congrArg (fun z => some (Value.int z)) (show zI 0 = zI (if hold tm (o.take (i + 1)) ((s : Nat) : Int) then 1 else 0) from zb0 (fun z => hb57 (hhs.mp z).1))) (sZ rfl (by omega) sE))))) (ih (i + 1) _ (by omega) (by omega) hW9.mr hO8 hSc8 (fun k n0 n1 n2 n3 n4 => ((hf8 k (by omega) (by omega) (by omega) (by omega) (by omega)).trans ((hfw k (by omega)).trans (hf0 k n0 n1 n2 n3 n4)))))
      · refine A_aload_n (q := 61) X dX9_possibleStrategies_60 rfl rfl ?_
        refine A_getf (q := 64) X fX9_16 dX9_possibleStrategies_61 (by omega) ((hf8 _ (by omega) (by omega) (by omega) (by omega) (by omega)).trans ((hfw _ (by omega)).trans h55)) rfl rfl ?_
        refine A_sipush (q := 67) X dX9_possibleStrategies_64 (by decide) rfl ?_
        refine A_iald (q := 68) (h := 58) 200 X dX9_possibleStrategies_67 (by omega) h588 (by omega) (by omega) (by decide) rfl ?_
        rw [hS8]
        refine A_aload_n (q := 69) X dX9_possibleStrategies_68 rfl rfl ?_
        refine A_getf (q := 72) X fX9_38 dX9_possibleStrategies_69 (by omega) ((hf8 _ (by omega) (by omega) (by omega) (by omega) (by omega)).trans ((hfw _ (by omega)).trans h55)) rfl rfl ?_
        refine A_iload (q := 74) X dX9_possibleStrategies_72 rfl rfl ?_
        refine A_iald (q := 75) (h := 65) (i) X dX9_possibleStrategies_74 (by omega) ((hf8 _ (by omega) (by omega) (by omega) (by omega) (by omega)).trans ((hfw _ (by omega)).trans h65)) (by omega) (by omega) (by decide) rfl ?_
        refine A_icmp_ne (q := 78) (t := 82) X dX9_possibleStrategies_75 (by omega) (by omega) rfl rfl (fun hb75 => ?_) (fun hb75 => ?_)
        · refine A_iconst (q := 83) X dX9_possibleStrategies_82 rfl ?_
          refine A_istore_n (q := 84) X dX9_possibleStrategies_83 (by decide) (okP_s rfl rfl) rfl ?_
          refine A_iinc (q := 87) X dX9_possibleStrategies_84 rfl (by decide) (okP_s rfl rfl) rfl ?_
          refine A_goto (q := 19) X dX9_possibleStrategies_87 rfl ?_
          exact AW.loc (sS rfl (sS rfl (sS rfl (sS (congrArg (fun z => some (Value.int z)) (show zI 0 = zI (if hold tm (o.take (i + 1)) ((s : Nat) : Int) then 1 else 0) from zb0 (fun z => hb75 (hhs.mp z).2))) (sZ rfl (by omega) sE))))) (ih (i + 1) _ (by omega) (by omega) hW9.mr hO8 hSc8 (fun k n0 n1 n2 n3 n4 => ((hf8 k (by omega) (by omega) (by omega) (by omega) (by omega)).trans ((hfw k (by omega)).trans (hf0 k n0 n1 n2 n3 n4)))))
        · refine A_iconst (q := 79) X dX9_possibleStrategies_78 rfl ?_
          refine A_goto (q := 83) X dX9_possibleStrategies_79 rfl ?_
          refine A_istore_n (q := 84) X dX9_possibleStrategies_83 (by decide) (okP_s rfl rfl) rfl ?_
          refine A_iinc (q := 87) X dX9_possibleStrategies_84 rfl (by decide) (okP_s rfl rfl) rfl ?_
          refine A_goto (q := 19) X dX9_possibleStrategies_87 rfl ?_
          exact AW.loc (sS rfl (sS rfl (sS rfl (sS (congrArg (fun z => some (Value.int z)) (show zI 1 = zI (if hold tm (o.take (i + 1)) ((s : Nat) : Int) then 1 else 0) from zb1 (hhs.mpr ⟨hb57, by omega⟩))) (sZ rfl (by omega) sE))))) (ih (i + 1) _ (by omega) (by omega) hW9.mr hO8 hSc8 (fun k n0 n1 n2 n3 n4 => ((hf8 k (by omega) (by omega) (by omega) (by omega) (by omega)).trans ((hfw k (by omega)).trans (hf0 k n0 n1 n2 n3 n4)))))
set_option maxRecDepth 100000 in
set_option maxHeartbeats 4000000 in
theorem lp1_X9_possibleStrategies {l : Launch} {G : Gm} {K : Cx} {c0 : HP} {tm : List Int} {o : List (Int × Int)} {FO VO : Nat → Int} {th ts rmb tw pk : Int} {sd : Int64} (X : Fx l G K cX9_possibleStrategies 5 RX9 ((some .int)) (rmR 5 117)) (hG : injG G) (hN : G.2.1 = 72) (h055 : c0 55 = ob9 G th ts rmb ((o.length : Nat) : Int) sd tw pk) (hT0 : Mt G c0 57 tm) (hgd : Gd tm) (hol : o.length ≤ 6) (hor : ∀ q ∈ o, (0 ≤ q.1 ∧ q.1 ≤ 50) ∧ 1 ≤ q.2 ∧ q.2 ≤ 200) (h064 : c0 64 = aI G 6 FO) (h065 : c0 65 = aI G 6 VO) (hFV : ∀ k, k < o.length → o.getD k (0, 0) = (FO k, VO k)) : ∀ (n : Nat) (s : Nat) (c : HP), 4 - s < n → s ≤ 4 → Mr G c 58 → Mr G c 60 → Sc G c → (∀ k, k ≠ 58 → k ≠ 60 → k ≠ 66 → k ≠ 67 → k ≠ 68 → c k = c0 k) → AW G K (Qi (fun v c' => v = psB tm o 4 ∧ Mr G c' 58 ∧ Mr G c' 60 ∧ Sc G c' ∧ (∀ k, k ≠ 58 → k ≠ 60 → k ≠ 66 → k ≠ 67 → k ≠ 68 → c' k = c0 k))) 9 (mkL [some (.ref (G.1 55)), some (.int (psB tm o s)), some (.int (zI ((s : Nat) : Int))), none, none]) [] c := by
  intro n
  induction n with
  | zero => intro s c hmz; exact absurd hmz (Nat.not_lt_zero _)
  | succ n ih =>
    intro s c hmz hi hR8 hO hSc hf0
    refine A_iload_n (q := 10) X dX9_possibleStrategies_9 rfl rfl ?_
    refine A_iconst (q := 11) X dX9_possibleStrategies_10 rfl ?_
    refine A_icmp_ge (q := 14) (t := 110) X dX9_possibleStrategies_11 (by omega) (by decide) rfl rfl (fun hb11 => ?_) (fun hb11 => ?_)
    · refine A_iload_n (q := 111) X dX9_possibleStrategies_110 rfl rfl ?_
      exact A_ireturn X dX9_possibleStrategies_111 ⟨by rw [show s = 4 by omega], hR8, hO, hSc, hf0⟩
    · refine A_iconst (q := 15) X dX9_possibleStrategies_14 rfl ?_
      refine A_istore_n (q := 16) X dX9_possibleStrategies_15 (by decide) (okP_s rfl rfl) rfl ?_
      refine A_iconst (q := 17) X dX9_possibleStrategies_16 rfl ?_
      refine A_istore (q := 19) X dX9_possibleStrategies_17 (by decide) (okP_s rfl rfl) rfl ?_
      have e0 : hold tm (o.take 0) ((s : Nat) : Int) := fun q hq => absurd hq (by rw [List.take_zero]; exact List.not_mem_nil)
      refine AW.loc (sS rfl (sS rfl (sS rfl (sS (congrArg (fun z => some (Value.int z)) (show zI 1 = zI (if hold tm (o.take 0) ((s : Nat) : Int) then 1 else 0) from zb1 e0)) (sZ rfl rfl sE))))) (lp2_X9_possibleStrategies (s := s) X hG hN h055 hT0 hgd hol hor h064 h065 hFV (by omega) ?_ _ 0 c (Nat.lt_succ_self _) (Nat.zero_le _) hR8 hO hSc hf0)
      intro c2 hR2 hO2 hSc2 hf2
      refine A_iload_n (q := 91) X dX9_possibleStrategies_90 rfl rfl ?_
      refine A_iload_n (q := 92) X dX9_possibleStrategies_91 rfl rfl ?_
      refine A_beq (q := 95) (t := 101) X dX9_possibleStrategies_92 rfl rfl (fun hb92 => ?_) (fun hb92 => ?_)
      · refine A_iconst (q := 102) X dX9_possibleStrategies_101 rfl ?_
        refine A_ior (q := 103) X dX9_possibleStrategies_102 rfl ?_
        refine A_istore_n (q := 104) X dX9_possibleStrategies_103 (by decide) (okP_s rfl rfl) rfl ?_
        refine A_iinc (q := 107) X dX9_possibleStrategies_104 rfl (by decide) (okP_s rfl rfl) rfl ?_
        refine A_goto (q := 9) X dX9_possibleStrategies_107 rfl ?_
        have ef : psB tm o (s + 1) = psB tm o s ||| zI 0 := by refine Eq.trans (b := psB tm o s) ?_ (Int32.or_zero).symm; show (if _ then _ else _) = _; rw [if_neg hb92]
        exact AW.loc (sS rfl (sS (by rw [ef]; rfl) (sZ rfl (by omega) (sN (sN sE))))) (ih (s + 1) c2 (by omega) (by omega) hR2 hO2 hSc2 hf2)
      · refine A_iconst (q := 96) X dX9_possibleStrategies_95 rfl ?_
        refine A_iload_n (q := 97) X dX9_possibleStrategies_96 rfl rfl ?_
        refine A_ishl (q := 98) X dX9_possibleStrategies_97 rfl ?_
        refine A_goto (q := 102) X dX9_possibleStrategies_98 rfl ?_
        refine A_ior (q := 103) X dX9_possibleStrategies_102 rfl ?_
        refine A_istore_n (q := 104) X dX9_possibleStrategies_103 (by decide) (okP_s rfl rfl) rfl ?_
        refine A_iinc (q := 107) X dX9_possibleStrategies_104 rfl (by decide) (okP_s rfl rfl) rfl ?_
        refine A_goto (q := 9) X dX9_possibleStrategies_107 rfl ?_
        have ef : psB tm o (s + 1) = psB tm o s ||| (zI 1 <<< (zI ((s : Nat) : Int) &&& 31)) := by show (if _ then _ else _) = _; rw [if_pos hb92]
        exact AW.loc (sS rfl (sS (by rw [ef]; rfl) (sZ rfl (by omega) (sN (sN sE))))) (ih (s + 1) c2 (by omega) (by omega) hR2 hO2 hSc2 hf2)
set_option maxRecDepth 100000 in
set_option maxHeartbeats 4000000 in
theorem c_X9_possibleStrategies {l : Launch} {G : Gm} {c : HP} {tm x : List Int} {hs : List (List Int)} {s0 s1 : List Int} {o : List (Int × Int)} {sd : Int64} (hG : injG G) (hW : WM G c (tm, x, hs, s0, s1, o, sd)) : AMet l G yX9_possibleStrategies cX9_possibleStrategies 5 ((some .int)) (rmR 5 117) [.ref (G.1 55)] c (Qi (fun v c' => v = psB tm o 4 ∧ WM G c' (tm, x, hs, s0, s1, o, sd) ∧ (∀ k, k < 55 → c' k = c k))) := by
  refine AMet.of (vl := [some (.ref (G.1 55))]) (by decide) hG (Nat.le_of_ble_eq_true rfl) rfl ?_
  intro K X
  have X : Fx l G K cX9_possibleStrategies 5 RX9 ((some .int)) (rmR 5 117) := X
  obtain ⟨hN, ⟨th, tw, pk, h55, htw⟩, hX, hT, hgd, hR8, hR9, hO, hH, hV, hB, hSc, hWd⟩ := hW
  dsimp only at h55 hX hT hgd hH hV hB
  have hl0 := hT.len
  have hxl := hX.1
  have hhl := hH.1
  have hol := hB.1
  have hB0 := hB
  obtain ⟨-, hor, FO, VO, h64, h65, hFV⟩ := hB0
  refine A_aload_n (q := 1) X dX9_possibleStrategies_0 rfl rfl ?_
  refine A_iconst (q := 2) X dX9_possibleStrategies_1 rfl ?_
  refine A_putf (q := 5) X pX9_59 dX9_possibleStrategies_2 (by omega) h55 (Nat.le_of_ble_eq_true rfl) rfl rfl rfl ?_
  refine A_iconst (q := 6) X dX9_possibleStrategies_5 rfl ?_
  refine A_istore_n (q := 7) X dX9_possibleStrategies_6 (by decide) (okP_s rfl rfl) rfl ?_
  refine A_iconst (q := 8) X dX9_possibleStrategies_7 rfl ?_
  refine A_istore_n (q := 9) X dX9_possibleStrategies_8 (by decide) (okP_s rfl rfl) rfl ?_
  refine AW.loc (sS rfl (sS rfl (sZ rfl rfl (sN (sN sE))))) (AW.mono (lp1_X9_possibleStrategies (o := o) X hG hN (lk_eq) (hT.keep (lk_ne (by omega) rfl)) hgd hol hor ((lk_ne (by omega) h64)) ((lk_ne (by omega) h65)) hFV _ 0 _ (Nat.lt_succ_self _) (Nat.zero_le _) (hR8.keep (lk_ne (by omega) rfl)) (hO.keep (lk_ne (by omega) rfl)) (hSc.keep (lk_ne (by omega) rfl) (lk_ne (by omega) rfl) (lk_ne (by omega) rfl)) (fun _ _ _ _ _ _ => rfl)) ?_)
  rintro r c9 ⟨v9, hv9, rfl, hR89, hO9, hSc9, hf9⟩
  exact ⟨_, hv9, rfl, ⟨hN, ⟨_, _, _, ((hf9 _ (by omega) (by omega) (by omega) (by omega) (by omega)).trans lk_eq), htw⟩, (hX.keep ((hf9 56 (by omega) (by omega) (by omega) (by omega) (by omega)).trans (lk_ne (by omega) rfl))), (hT.keep ((hf9 57 (by omega) (by omega) (by omega) (by omega) (by omega)).trans (lk_ne (by omega) rfl))), hgd, hR89, (hR9.keep ((hf9 59 (by omega) (by omega) (by omega) (by omega) (by omega)).trans (lk_ne (by omega) rfl))), hO9, (hH.keep ((hf9 61 (by omega) (by omega) (by omega) (by omega) (by omega)).trans (lk_ne (by omega) rfl))), (hV.keep ((hf9 62 (by omega) (by omega) (by omega) (by omega) (by omega)).trans (lk_ne (by omega) rfl)) ((hf9 63 (by omega) (by omega) (by omega) (by omega) (by omega)).trans (lk_ne (by omega) rfl))), (hB.keep ((hf9 64 (by omega) (by omega) (by omega) (by omega) (by omega)).trans (lk_ne (by omega) rfl)) ((hf9 65 (by omega) (by omega) (by omega) (by omega) (by omega)).trans (lk_ne (by omega) rfl))), hSc9, (hWd.keep ((hf9 69 (by omega) (by omega) (by omega) (by omega) (by omega)).trans (lk_ne (by omega) rfl)) ((hf9 70 (by omega) (by omega) (by omega) (by omega) (by omega)).trans (lk_ne (by omega) rfl)) ((hf9 71 (by omega) (by omega) (by omega) (by omega) (by omega)).trans (lk_ne (by omega) rfl)))⟩, (fun k n0 => ((hf9 k (by omega) (by omega) (by omega) (by omega) (by omega)).trans (lk_ne (by omega) rfl)))⟩
