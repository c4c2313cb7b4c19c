/-! THE MODEL, fifth: contraction -/
def Sc (G : Gm) (c : HP) : Prop := (∃ D, c 66 = aI G 201 D) ∧ (∃ O, c 67 = aI G 201 O) ∧ (∃ B, c 68 = aZ G 201 B)
theorem Sc.keep {G : Gm} {c c' : HP} (h : Sc G c) (e1 : c' 66 = c 66) (e2 : c' 67 = c 67) (e3 : c' 68 = c 68) : Sc G c' := ⟨⟨_, e1.trans h.1.choose_spec⟩, ⟨_, e2.trans h.2.1.choose_spec⟩, ⟨_, e3.trans h.2.2.choose_spec⟩⟩
theorem drop_take_s {l : List Int} {z j : Nat} (h : z + j < l.length) : (l.drop z).take (j + 1) = (l.drop z).take j ++ [l.getD (z + j) 0] := by
  rw [take_succ_getD (by rw [List.length_drop]; omega)]
  simp only [List.getD_eq_getElem?_getD, List.getElem?_drop]
set_option maxRecDepth 100000 in
set_option maxHeartbeats 4000000 in
theorem lp3_contract {l : Launch} {G : Gm} {K : Cx} {c0 : HP} {a p A c1 c2 : Nat} {l0 x ag : List Int} {F : Nat → Int} {th ts rmb obn tw pk : Int} {sd : Int64} (X : Fx l G K cX9_contract 8 RX9 ((some .boolean)) (rmR 2 48)) (hG : injG G) (hN : G.2.1 = 72) (h055 : c0 55 = ob9 G th ts rmb obn sd tw pk) (ha0 : a < G.2.1) (an : a ≠ 60 ∧ a ≠ 66 ∧ a ≠ 67 ∧ a ≠ 68) (haF : c0 a = aI G 201 F) (hS : F 200 = ((l0.length : Nat) : Int)) (hF : ∀ k, k < l0.length → F k = l0.getD k 0) (hgd : Gd l0) (hl0 : l0.length ≤ 200) (hA : A = p + 2 + x.length) (hZ : A + ag.length ≤ l0.length) (hx1 : One x c1) (hg1 : One ag c2) (hx0 : ∀ t ∈ x, 0 ≤ t ∧ t ≤ 1001) (hg0 : ∀ t ∈ ag, 0 ≤ t ∧ t ≤ 1001) (hxF : ∀ i, i < x.length → F (p + 2 + i) = x.getD i 0) (hgF : ∀ i, i < ag.length → F (A + i) = ag.getD i 0) : ∀ (n : Nat) (j : Nat) (c : HP), l0.length - j < n → A + ag.length + j ≤ l0.length → Po G c (l0.take p ++ (sb x [0] ag ++ (l0.drop (A + ag.length)).take j)) → Sc G c → (∀ k, k ≠ 60 → k ≠ 66 → k ≠ 67 → k ≠ 68 → c k = c0 k) → AW G K (Qi (fun v c' => v = zI (if (l0.take p ++ (sb x [0] ag ++ l0.drop (A + ag.length))).length ≤ 200 then 1 else 0) ∧ Po G c' (l0.take p ++ (sb x [0] ag ++ l0.drop (A + ag.length))) ∧ Sc G c' ∧ (∀ k, k ≠ 60 → k ≠ 66 → k ≠ 67 → k ≠ 68 → c' k = c0 k))) 185 (mkL [some (.ref (G.1 55)), some (.ref (G.1 a)), some (.int (zI ((p : Nat) : Int))), some (.int (zI ((A : Nat) : Int))), some (.int (zI (((A + ag.length) : Nat) : Int))), some (.int (zI (if (l0.take p ++ (sb x [0] ag ++ (l0.drop (A + ag.length)).take j)).length ≤ 200 then 1 else 0 : Int))), some (.int (zI (((A + ag.length + j) : Nat) : Int))), none]) [] c := by
  intro n
  induction n with
  | zero => intro j c hmz; exact absurd hmz (Nat.not_lt_zero _)
  | succ n ih =>
    intro j c hmz hj hPo hSc hf0
    have h55 := (hf0 55 (by decide) (by decide) (by decide) (by decide)).trans h055
    have ha := (hf0 a an.1 an.2.1 an.2.2.1 an.2.2.2).trans haF
    refine A_iload (q := 187) X dX9_contract_185 rfl rfl ?_
    refine A_aload_n (q := 188) X dX9_contract_187 rfl rfl ?_
    refine A_sipush (q := 191) X dX9_contract_188 (by decide) rfl ?_
    refine A_iald (q := 192) (h := a) 200 X dX9_contract_191 ha0 ha (by omega) (by omega) (by decide) rfl ?_
    rw [hS]
    refine A_icmp_ge (q := 195) (t := 224) X dX9_contract_192 (by omega) (by omega) rfl rfl (fun hb192 => ?_) (fun hb192 => ?_)
    · refine A_iload (q := 226) X dX9_contract_224 rfl rfl ?_
      have e9 : (l0.drop (A + ag.length)).take j = l0.drop (A + ag.length) := List.take_of_length_le (by rw [List.length_drop]; omega)
      rw [e9] at hPo ⊢
      exact A_zreturn X dX9_contract_226 bb_01 ⟨rfl, hPo, hSc, hf0⟩
    · refine A_iload (q := 197) X dX9_contract_195 rfl rfl ?_
      refine A_beq (q := 200) (t := 215) X dX9_contract_197 rfl rfl (fun hb197 => ?_) (fun hb197 => ?_)
      · refine A_iconst (q := 216) X dX9_contract_215 rfl ?_
        refine A_istore (q := 218) X dX9_contract_216 (by decide) (okP_s rfl rfl) rfl ?_
        refine A_iinc (q := 221) X dX9_contract_218 rfl (by decide) (okP_s rfl rfl) rfl ?_
        refine A_goto (q := 185) X dX9_contract_221 rfl ?_
        have eW : l0.take p ++ (sb x [0] ag ++ (l0.drop (A + ag.length)).take (j + 1)) = (l0.take p ++ (sb x [0] ag ++ (l0.drop (A + ag.length)).take j)) ++ [l0.getD (A + ag.length + j) 0] := by rw [drop_take_s (by omega)]; simp only [List.append_assoc]
        have hbig : ¬ (l0.take p ++ (sb x [0] ag ++ (l0.drop (A + ag.length)).take (j + 1))).length ≤ 200 := by rw [eW, List.length_append]; intro q; exact hb197 (Nat.le_trans (Nat.le_add_right _ _) q)
        exact AW.loc (sS rfl (sS rfl (sS rfl (sS rfl (sS rfl (sS (congrArg (fun z => some (Value.int z)) (show zI 0 = zI (if (l0.take p ++ (sb x [0] ag ++ (l0.drop (A + ag.length)).take (j + 1))).length ≤ 200 then 1 else 0) from zb0 hbig)) (sZ rfl (by omega) (sN sE)))))))) (ih (j + 1) _ (by omega) (by omega) (hPo.big hbig) hSc (fun k n0 n1 n2 n3 => (hf0 k n0 n1 n2 n3)))
      · refine A_aload_n (q := 201) X dX9_contract_200 rfl rfl ?_
        refine A_aload_n (q := 202) X dX9_contract_201 rfl rfl ?_
        refine A_iload (q := 204) X dX9_contract_202 rfl rfl ?_
        refine A_iald (q := 205) (h := a) ((A + ag.length + j)) X dX9_contract_204 ha0 ha (by omega) (by omega) (by decide) rfl ?_
        rw [hF (A + ag.length + j) (by omega)]
        refine A_V1i (q := 208) X (c_X9_put (w := (l0.take p ++ (sb x [0] ag ++ (l0.drop (A + ag.length)).take j))) (t := (l0.getD (A + ag.length + j) 0)) hG hN h55 hPo hb197) mX9_put kX9_83 dX9_contract_205 (by omega) h55 rfl (by decide) (Nat.le_of_ble_eq_true rfl) rfl (fun vq_3 cq_2 hq_1 => ?_)
        obtain ⟨rfl, hPo_4, hfp_5⟩ := hq_1
        refine A_beq (q := 211) (t := 215) X dX9_contract_208 rfl rfl (fun hb208 => ?_) (fun hb208 => ?_)
        · refine A_iconst (q := 216) X dX9_contract_215 rfl ?_
          refine A_istore (q := 218) X dX9_contract_216 (by decide) (okP_s rfl rfl) rfl ?_
          refine A_iinc (q := 221) X dX9_contract_218 rfl (by decide) (okP_s rfl rfl) rfl ?_
          refine A_goto (q := 185) X dX9_contract_221 rfl ?_
          have eW : l0.take p ++ (sb x [0] ag ++ (l0.drop (A + ag.length)).take (j + 1)) = (l0.take p ++ (sb x [0] ag ++ (l0.drop (A + ag.length)).take j)) ++ [l0.getD (A + ag.length + j) 0] := by rw [drop_take_s (by omega)]; simp only [List.append_assoc]
          exact AW.loc (sS rfl (sS rfl (sS rfl (sS rfl (sS rfl (sS (congrArg (fun z => some (Value.int z)) (show zI 0 = zI (if (l0.take p ++ (sb x [0] ag ++ (l0.drop (A + ag.length)).take (j + 1))).length ≤ 200 then 1 else 0) from zb0 (by rw [eW]; exact hb208))) (sZ rfl (by omega) (sN sE)))))))) (ih (j + 1) _ (by omega) (by omega) (by rw [eW]; exact hPo_4) (hSc.keep ((hfp_5 66 (by omega)).trans rfl) ((hfp_5 67 (by omega)).trans rfl) ((hfp_5 68 (by omega)).trans rfl)) (fun k n0 n1 n2 n3 => ((hfp_5 k (by omega)).trans (hf0 k n0 n1 n2 n3))))
        · refine A_iconst (q := 212) X dX9_contract_211 rfl ?_
          refine A_goto (q := 216) X dX9_contract_212 rfl ?_
          refine A_istore (q := 218) X dX9_contract_216 (by decide) (okP_s rfl rfl) rfl ?_
          refine A_iinc (q := 221) X dX9_contract_218 rfl (by decide) (okP_s rfl rfl) rfl ?_
          refine A_goto (q := 185) X dX9_contract_221 rfl ?_
          have eW : l0.take p ++ (sb x [0] ag ++ (l0.drop (A + ag.length)).take (j + 1)) = (l0.take p ++ (sb x [0] ag ++ (l0.drop (A + ag.length)).take j)) ++ [l0.getD (A + ag.length + j) 0] := by rw [drop_take_s (by omega)]; simp only [List.append_assoc]
          exact AW.loc (sS rfl (sS rfl (sS rfl (sS rfl (sS rfl (sS (congrArg (fun z => some (Value.int z)) (show zI 1 = zI (if (l0.take p ++ (sb x [0] ag ++ (l0.drop (A + ag.length)).take (j + 1))).length ≤ 200 then 1 else 0) from zb1 (by rw [eW]; exact hb208))) (sZ rfl (by omega) (sN sE)))))))) (ih (j + 1) _ (by omega) (by omega) (by rw [eW]; exact hPo_4) (hSc.keep ((hfp_5 66 (by omega)).trans rfl) ((hfp_5 67 (by omega)).trans rfl) ((hfp_5 68 (by omega)).trans rfl)) (fun k n0 n1 n2 n3 => ((hfp_5 k (by omega)).trans (hf0 k n0 n1 n2 n3))))
set_option maxRecDepth 100000 in
set_option maxHeartbeats 4000000 in
theorem lp2_contract {l : Launch} {G : Gm} {K : Cx} {c0 : HP} {a p A c1 c2 : Nat} {l0 x ag : List Int} {F : Nat → Int} {th ts rmb obn tw pk : Int} {sd : Int64} {D : Nat → Int} (X : Fx l G K cX9_contract 8 RX9 ((some .boolean)) (rmR 2 48)) (hG : injG G) (hN : G.2.1 = 72) (h055 : c0 55 = ob9 G th ts rmb obn sd tw pk) (ha0 : a < G.2.1) (an : a ≠ 60 ∧ a ≠ 66 ∧ a ≠ 67 ∧ a ≠ 68) (haF : c0 a = aI G 201 F) (hS : F 200 = ((l0.length : Nat) : Int)) (hF : ∀ k, k < l0.length → F k = l0.getD k 0) (hgd : Gd l0) (hl0 : l0.length ≤ 200) (hA : A = p + 2 + x.length) (hZ : A + ag.length ≤ l0.length) (hx1 : One x c1) (hg1 : One ag c2) (hx0 : ∀ t ∈ x, 0 ≤ t ∧ t ≤ 1001) (hg0 : ∀ t ∈ ag, 0 ≤ t ∧ t ≤ 1001) (hxF : ∀ i, i < x.length → F (p + 2 + i) = x.getD i 0) (hgF : ∀ i, i < ag.length → F (A + i) = ag.getD i 0) (hD : ∀ j, j < x.length → D (p + 2 + j) = ((dp x j : Nat) : Int)) (hDg : ∀ j, j < ag.length → D (A + j) = ((dp ag j : Nat) : Int)) : ∀ (n : Nat) (j : Nat) (c : HP), x.length - j < n → j ≤ x.length → Po G c (l0.take p ++ sb (x.take j) [0] ag) → Sc G c → c 66 = aI G 201 D → (∀ k, k ≠ 60 → k ≠ 66 → k ≠ 67 → k ≠ 68 → c k = c0 k) → AW G K (Qi (fun v c' => v = zI (if (l0.take p ++ (sb x [0] ag ++ l0.drop (A + ag.length))).length ≤ 200 then 1 else 0) ∧ Po G c' (l0.take p ++ (sb x [0] ag ++ l0.drop (A + ag.length))) ∧ Sc G c' ∧ (∀ k, k ≠ 60 → k ≠ 66 → k ≠ 67 → k ≠ 68 → c' k = c0 k))) 87 (mkL [some (.ref (G.1 55)), some (.ref (G.1 a)), some (.int (zI ((p : Nat) : Int))), some (.int (zI ((A : Nat) : Int))), some (.int (zI (((A + ag.length) : Nat) : Int))), some (.int (zI (if (l0.take p ++ sb (x.take j) [0] ag).length ≤ 200 then 1 else 0 : Int))), some (.int (zI (((p + 2 + j) : Nat) : Int))), none]) [] c := by
  intro n
  induction n with
  | zero => intro j c hmz; exact absurd hmz (Nat.not_lt_zero _)
  | succ n ih =>
    intro j c hmz hj hPo hSc h66 hf0
    have h55 := (hf0 55 (by decide) (by decide) (by decide) (by decide)).trans h055
    have ha := (hf0 a an.1 an.2.1 an.2.2.1 an.2.2.2).trans haF
    refine A_iload (q := 89) X dX9_contract_87 rfl rfl ?_
    refine A_iload_n (q := 90) X dX9_contract_89 rfl rfl ?_
    refine A_icmp_ge (q := 93) (t := 181) X dX9_contract_90 (by omega) (by omega) rfl rfl (fun hb90 => ?_) (fun hb90 => ?_)
    · refine A_iload (q := 183) X dX9_contract_181 rfl rfl ?_
      refine A_istore (q := 185) X dX9_contract_183 (by decide) (okP_s rfl rfl) rfl ?_
      have e0 : l0.take p ++ (sb x [0] ag ++ (l0.drop (A + ag.length)).take 0) = l0.take p ++ sb x [0] ag := by rw [List.take_zero, List.append_nil]
      have ej : x.take j = x := List.take_of_length_le (by omega)
      rw [ej] at hPo ⊢
      exact AW.loc (sS rfl (sS rfl (sS rfl (sS rfl (sS rfl (sS (by rw [e0]; rfl) (sZ rfl (by omega) (sN sE)))))))) (lp3_contract X hG hN h055 ha0 an haF hS hF hgd hl0 hA hZ hx1 hg1 hx0 hg0 hxF hgF _ 0 _ (Nat.lt_succ_self _) (by omega) (by rw [e0]; exact hPo) hSc hf0)
    · refine A_iload (q := 95) X dX9_contract_93 rfl rfl ?_
      refine A_beq (q := 98) (t := 181) X dX9_contract_95 rfl rfl (fun hb95 => ?_) (fun hb95 => ?_)
      · refine A_iload (q := 183) X dX9_contract_181 rfl rfl ?_
        refine A_istore (q := 185) X dX9_contract_183 (by decide) (okP_s rfl rfl) rfl ?_
        have e0 : l0.take p ++ (sb x [0] ag ++ (l0.drop (A + ag.length)).take 0) = l0.take p ++ sb x [0] ag := by rw [List.take_zero, List.append_nil]
        have hbig : ¬ (l0.take p ++ sb x [0] ag).length ≤ 200 := fun q => hb95 (by rw [show x = x.take j ++ x.drop j from (List.take_append_drop j x).symm, sb_app, ← List.append_assoc, List.length_append] at q; omega)
        exact AW.loc (sS rfl (sS rfl (sS rfl (sS rfl (sS rfl (sS (congrArg (fun z => some (Value.int z)) (show zI (if (l0.take p ++ sb (x.take j) [0] ag).length ≤ 200 then 1 else 0) = zI (if (l0.take p ++ (sb x [0] ag ++ (l0.drop (A + ag.length)).take 0)).length ≤ 200 then 1 else 0) from by rw [e0, if_neg hb95, if_neg hbig])) (sZ rfl (by omega) (sN sE)))))))) (lp3_contract X hG hN h055 ha0 an haF hS hF hgd hl0 hA hZ hx1 hg1 hx0 hg0 hxF hgF _ 0 _ (Nat.lt_succ_self _) (by omega) (by rw [e0]; exact hPo.big hbig) hSc hf0)
      · have hjl : j < x.length := by omega
        have hsb := sb_take (arg := ag) hx1 hjl
        have htb := hx0 _ (mem_getD hjl)
        have hFt := hxF j hjl
        have hDi := hD j hjl
        have hdpl := dp_le x j
        generalize x.getD j 0 = t at hsb htb hFt
        unfold pce at hsb
        refine A_aload_n (q := 99) X dX9_contract_98 rfl rfl ?_
        refine A_getf (q := 102) X fX9_41 dX9_contract_99 (by omega) h55 rfl rfl ?_
        refine A_iload (q := 104) X dX9_contract_102 rfl rfl ?_
        refine A_iald (q := 105) (h := 66) ((p + 2 + j)) X dX9_contract_104 (by omega) h66 (by omega) (by omega) (by decide) rfl ?_
        rw [hDi]
        refine A_istore (q := 107) X dX9_contract_105 (by decide) (okP_s rfl rfl) rfl ?_
        refine A_aload_n (q := 108) X dX9_contract_107 rfl rfl ?_
        refine A_iload (q := 110) X dX9_contract_108 rfl rfl ?_
        refine A_iald (q := 111) (h := a) ((p + 2 + j)) X dX9_contract_110 ha0 ha (by omega) (by omega) (by decide) rfl ?_
        rw [hFt]
        refine A_S1i (q := 114) X (c_X9_isVariable hG (by omega)) mX9_isVariable kX9_68 dX9_contract_111 (by decide) (Nat.le_of_ble_eq_true rfl) rfl (fun vq_3 cq_2 hq_1 => ?_)
        obtain ⟨rfl, hq_1⟩ := hq_1
        obtain rfl := hq_1.symm
        refine A_beq (q := 117) (t := 126) X dX9_contract_114 rfl rfl (fun hb114 => ?_) (fun hb114 => ?_)
        · refine A_aload_n (q := 127) X dX9_contract_126 rfl rfl ?_
          refine A_aload_n (q := 128) X dX9_contract_127 rfl rfl ?_
          refine A_iload (q := 130) X dX9_contract_128 rfl rfl ?_
          refine A_iald (q := 131) (h := a) ((p + 2 + j)) X dX9_contract_130 ha0 ha (by omega) (by omega) (by decide) rfl ?_
          rw [hFt]
          refine A_V1i (q := 134) X (c_X9_put (w := (l0.take p ++ sb (x.take j) [0] ag)) (t := t) hG hN h55 hPo hb95) mX9_put kX9_83 dX9_contract_131 (by omega) h55 rfl (by decide) (Nat.le_of_ble_eq_true rfl) rfl (fun vq_6 cq_5 hq_4 => ?_)
          obtain ⟨rfl, hPo_7, hfp_8⟩ := hq_4
          refine A_istore (q := 136) X dX9_contract_134 (by decide) (okP_s rfl rfl) rfl ?_
          refine A_goto (q := 175) X dX9_contract_136 rfl ?_
          refine A_iinc (q := 178) X dX9_contract_175 rfl (by decide) (okP_s rfl rfl) rfl ?_
          refine A_goto (q := 87) X dX9_contract_178 rfl ?_
          have eW : l0.take p ++ sb (x.take (j + 1)) [0] ag = ((l0.take p ++ sb (x.take j) [0] ag) ++ [t]) := by rw [hsb, ← List.append_assoc]; first | rw [if_pos (by omega)] | rw [if_neg (by omega), if_neg (by omega)]
          exact AW.loc (sS rfl (sS rfl (sS rfl (sS rfl (sS rfl (sS (by rw [eW]; rfl) (sZ rfl (by omega) (sN sE)))))))) (ih (j + 1) _ (by omega) (by omega) (by rw [eW]; exact hPo_7) (hSc.keep ((hfp_8 66 (by omega)).trans rfl) ((hfp_8 67 (by omega)).trans rfl) ((hfp_8 68 (by omega)).trans rfl)) (((hfp_8 _ (by omega)).trans h66)) (fun k n0 n1 n2 n3 => ((hfp_8 k (by omega)).trans (hf0 k n0 n1 n2 n3))))
        · refine A_aload_n (q := 118) X dX9_contract_117 rfl rfl ?_
          refine A_iload (q := 120) X dX9_contract_118 rfl rfl ?_
          refine A_iald (q := 121) (h := a) ((p + 2 + j)) X dX9_contract_120 ha0 ha (by omega) (by omega) (by decide) rfl ?_
          rw [hFt]
          refine A_iload (q := 123) X dX9_contract_121 rfl rfl ?_
          refine A_icmp_ge (q := 126) (t := 139) X dX9_contract_123 (by omega) (by omega) rfl rfl (fun hb123 => ?_) (fun hb123 => ?_)
          · refine A_aload_n (q := 140) X dX9_contract_139 rfl rfl ?_
            refine A_iload (q := 142) X dX9_contract_140 rfl rfl ?_
            refine A_iald (q := 143) (h := a) ((p + 2 + j)) X dX9_contract_142 ha0 ha (by omega) (by omega) (by decide) rfl ?_
            rw [hFt]
            refine A_iload (q := 145) X dX9_contract_143 rfl rfl ?_
            refine A_icmp_le (q := 148) (t := 163) X dX9_contract_145 (by omega) (by omega) rfl rfl (fun hb145 => ?_) (fun hb145 => ?_)
            · refine A_aload_n (q := 164) X dX9_contract_163 rfl rfl ?_
              refine A_aload_n (q := 165) X dX9_contract_164 rfl rfl ?_
              refine A_iload_n (q := 166) X dX9_contract_165 rfl rfl ?_
              refine A_iload (q := 168) X dX9_contract_166 rfl rfl ?_
              refine A_iload (q := 170) X dX9_contract_168 rfl rfl ?_
              refine A_V4i (q := 173) X (c_X9_putShifted (by_ := dp x j) hG hN h55 ha0 an.1 ha h66 hg1 hg0 (by omega) hgF hDg (by omega) hPo hb95) mX9_putShifted kX9_90 dX9_contract_170 (by omega) h55 rfl (by decide) (Nat.le_of_ble_eq_true rfl) rfl (fun vq_11 cq_10 hq_9 => ?_)
              obtain ⟨rfl, hPs, hfs⟩ := hq_9
              refine A_istore (q := 175) X dX9_contract_173 (by decide) (okP_s rfl rfl) rfl ?_
              refine A_iinc (q := 178) X dX9_contract_175 rfl (by decide) (okP_s rfl rfl) rfl ?_
              refine A_goto (q := 87) X dX9_contract_178 rfl ?_
              have eW : l0.take p ++ sb (x.take (j + 1)) [0] ag = ((l0.take p ++ sb (x.take j) [0] ag) ++ shf ag [0] (dp x j)) := by rw [hsb, ← List.append_assoc]; rw [if_neg (by omega), if_pos (by omega)]
              exact AW.loc (sS rfl (sS rfl (sS rfl (sS rfl (sS rfl (sS (by rw [eW]; rfl) (sZ rfl (by omega) (sN sE)))))))) (ih (j + 1) _ (by omega) (by omega) (by rw [eW]; exact hPs) (hSc.keep ((hfs 66 (by omega)).trans rfl) ((hfs 67 (by omega)).trans rfl) ((hfs 68 (by omega)).trans rfl)) (((hfs _ (by omega)).trans h66)) (fun k n0 n1 n2 n3 => ((hfs k (by omega)).trans (hf0 k n0 n1 n2 n3))))
            · refine A_aload_n (q := 149) X dX9_contract_148 rfl rfl ?_
              refine A_aload_n (q := 150) X dX9_contract_149 rfl rfl ?_
              refine A_iload (q := 152) X dX9_contract_150 rfl rfl ?_
              refine A_iald (q := 153) (h := a) ((p + 2 + j)) X dX9_contract_152 ha0 ha (by omega) (by omega) (by decide) rfl ?_
              rw [hFt]
              refine A_iconst (q := 154) X dX9_contract_153 rfl ?_
              refine A_isub (q := 155) X dX9_contract_154 rfl ?_
              refine A_V1i (q := 158) X (c_X9_put (w := (l0.take p ++ sb (x.take j) [0] ag)) (t := (t - 1)) hG hN h55 hPo hb95) mX9_put kX9_83 dX9_contract_155 (by omega) h55 rfl (by decide) (Nat.le_of_ble_eq_true rfl) rfl (fun vq_14 cq_13 hq_12 => ?_)
              obtain ⟨rfl, hPo_15, hfp_16⟩ := hq_12
              refine A_istore (q := 160) X dX9_contract_158 (by decide) (okP_s rfl rfl) rfl ?_
              refine A_goto (q := 175) X dX9_contract_160 rfl ?_
              refine A_iinc (q := 178) X dX9_contract_175 rfl (by decide) (okP_s rfl rfl) rfl ?_
              refine A_goto (q := 87) X dX9_contract_178 rfl ?_
              have eW : l0.take p ++ sb (x.take (j + 1)) [0] ag = ((l0.take p ++ sb (x.take j) [0] ag) ++ [(t - 1)]) := by rw [hsb, ← List.append_assoc]; first | rw [if_pos (by omega)] | rw [if_neg (by omega), if_neg (by omega)]
              exact AW.loc (sS rfl (sS rfl (sS rfl (sS rfl (sS rfl (sS (by rw [eW]; rfl) (sZ rfl (by omega) (sN sE)))))))) (ih (j + 1) _ (by omega) (by omega) (by rw [eW]; exact hPo_15) (hSc.keep ((hfp_16 66 (by omega)).trans rfl) ((hfp_16 67 (by omega)).trans rfl) ((hfp_16 68 (by omega)).trans rfl)) (((hfp_16 _ (by omega)).trans h66)) (fun k n0 n1 n2 n3 => ((hfp_16 k (by omega)).trans (hf0 k n0 n1 n2 n3))))
          · refine A_aload_n (q := 127) X dX9_contract_126 rfl rfl ?_
            refine A_aload_n (q := 128) X dX9_contract_127 rfl rfl ?_
            refine A_iload (q := 130) X dX9_contract_128 rfl rfl ?_
            refine A_iald (q := 131) (h := a) ((p + 2 + j)) X dX9_contract_130 ha0 ha (by omega) (by omega) (by decide) rfl ?_
            rw [hFt]
            refine A_V1i (q := 134) X (c_X9_put (w := (l0.take p ++ sb (x.take j) [0] ag)) (t := t) hG hN h55 hPo hb95) mX9_put kX9_83 dX9_contract_131 (by omega) h55 rfl (by decide) (Nat.le_of_ble_eq_true rfl) rfl (fun vq_19 cq_18 hq_17 => ?_)
            obtain ⟨rfl, hPo_20, hfp_21⟩ := hq_17
            refine A_istore (q := 136) X dX9_contract_134 (by decide) (okP_s rfl rfl) rfl ?_
            refine A_goto (q := 175) X dX9_contract_136 rfl ?_
            refine A_iinc (q := 178) X dX9_contract_175 rfl (by decide) (okP_s rfl rfl) rfl ?_
            refine A_goto (q := 87) X dX9_contract_178 rfl ?_
            have eW : l0.take p ++ sb (x.take (j + 1)) [0] ag = ((l0.take p ++ sb (x.take j) [0] ag) ++ [t]) := by rw [hsb, ← List.append_assoc]; first | rw [if_pos (by omega)] | rw [if_neg (by omega), if_neg (by omega)]
            exact AW.loc (sS rfl (sS rfl (sS rfl (sS rfl (sS rfl (sS (by rw [eW]; rfl) (sZ rfl (by omega) (sN sE)))))))) (ih (j + 1) _ (by omega) (by omega) (by rw [eW]; exact hPo_20) (hSc.keep ((hfp_21 66 (by omega)).trans rfl) ((hfp_21 67 (by omega)).trans rfl) ((hfp_21 68 (by omega)).trans rfl)) (((hfp_21 _ (by omega)).trans h66)) (fun k n0 n1 n2 n3 => ((hfp_21 k (by omega)).trans (hf0 k n0 n1 n2 n3))))
set_option maxRecDepth 100000 in
set_option maxHeartbeats 4000000 in
theorem lp1_contract {l : Launch} {G : Gm} {K : Cx} {c0 : HP} {a p A c1 c2 : Nat} {l0 x ag : List Int} {F : Nat → Int} {th ts rmb obn tw pk : Int} {sd : Int64} (X : Fx l G K cX9_contract 8 RX9 ((some .boolean)) (rmR 2 48)) (hG : injG G) (hN : G.2.1 = 72) (h055 : c0 55 = ob9 G th ts rmb obn sd tw pk) (ha0 : a < G.2.1) (an : a ≠ 60 ∧ a ≠ 66 ∧ a ≠ 67 ∧ a ≠ 68) (haF : c0 a = aI G 201 F) (hS : F 200 = ((l0.length : Nat) : Int)) (hF : ∀ k, k < l0.length → F k = l0.getD k 0) (hgd : Gd l0) (hl0 : l0.length ≤ 200) (hA : A = p + 2 + x.length) (hZ : A + ag.length ≤ l0.length) (hx1 : One x c1) (hg1 : One ag c2) (hx0 : ∀ t ∈ x, 0 ≤ t ∧ t ≤ 1001) (hg0 : ∀ t ∈ ag, 0 ≤ t ∧ t ≤ 1001) (hxF : ∀ i, i < x.length → F (p + 2 + i) = x.getD i 0) (hgF : ∀ i, i < ag.length → F (A + i) = ag.getD i 0) (hp : p + 2 ≤ l0.length) : ∀ (n : Nat) (i : Nat) (D : Nat → Int) (O : Nat → Int) (B : Nat → Int) (c : HP), p - i < n → i ≤ p → Po G c (l0.take i) → c 66 = aI G 201 D → c 67 = aI G 201 O → c 68 = aZ G 201 B → (∀ k, k ≠ 60 → k ≠ 66 → k ≠ 67 → k ≠ 68 → c k = c0 k) → AW G K (Qi (fun v c' => v = zI (if (l0.take p ++ (sb x [0] ag ++ l0.drop (A + ag.length))).length ≤ 200 then 1 else 0) ∧ Po G c' (l0.take p ++ (sb x [0] ag ++ l0.drop (A + ag.length))) ∧ Sc G c' ∧ (∀ k, k ≠ 60 → k ≠ 66 → k ≠ 67 → k ≠ 68 → c' k = c0 k))) 30 (mkL [some (.ref (G.1 55)), some (.ref (G.1 a)), some (.int (zI ((p : Nat) : Int))), some (.int (zI ((A : Nat) : Int))), some (.int (zI (((A + ag.length) : Nat) : Int))), some (.int (zI 1)), some (.int (zI ((i : Nat) : Int))), none]) [] c := by
  intro n
  induction n with
  | zero => intro i D O B c hmz; exact absurd hmz (Nat.not_lt_zero _)
  | succ n ih =>
    intro i D O B c hmz hi hPo h66 h67 h68 hf0
    have h55 := (hf0 55 (by decide) (by decide) (by decide) (by decide)).trans h055
    have ha := (hf0 a an.1 an.2.1 an.2.2.1 an.2.2.2).trans haF
    refine A_iload (q := 32) X dX9_contract_30 rfl rfl ?_
    refine A_iload_n (q := 33) X dX9_contract_32 rfl rfl ?_
    refine A_icmp_ge (q := 36) (t := 65) X dX9_contract_33 (by omega) (by omega) rfl rfl (fun hb33 => ?_) (fun hb33 => ?_)
    · refine A_aload_n (q := 66) X dX9_contract_65 rfl rfl ?_
      refine A_aload_n (q := 67) X dX9_contract_66 rfl rfl ?_
      refine A_iload_n (q := 68) X dX9_contract_67 rfl rfl ?_
      refine A_iload (q := 70) X dX9_contract_68 rfl rfl ?_
      refine A_V3v (q := 73) X (c_X9_layDepths (x := ag) (fm := A) hG hN h55 ha0 an.2 ha hg1 hg0 (by omega) hgF (h66) (h67) (h68)) mX9_layDepths kX9_86 dX9_contract_70 (by omega) h55 rfl (by decide) (Nat.le_of_ble_eq_true rfl) rfl (fun cq_2 hq_1 => ?_)
      obtain ⟨⟨Dx, h66x, hDx, hDox⟩, ⟨Ox, h67x⟩, ⟨Bx, h68x⟩, hflx⟩ := hq_1
      refine A_aload_n (q := 74) X dX9_contract_73 rfl rfl ?_
      refine A_aload_n (q := 75) X dX9_contract_74 rfl rfl ?_
      refine A_iload_n (q := 76) X dX9_contract_75 rfl rfl ?_
      refine A_iconst (q := 77) X dX9_contract_76 rfl ?_
      refine A_iadd (q := 78) X dX9_contract_77 rfl ?_
      refine A_iload_n (q := 79) X dX9_contract_78 rfl rfl ?_
      rw [show zI (((p : Nat) : Int) + 2) = zI ((p + 2 : Nat) : Int) from congrArg zI (by omega), show zI ((A : Nat) : Int) = zI ((p + 2 + x.length : Nat) : Int) from congrArg zI (by omega)]
      refine A_V3v (q := 82) X (c_X9_layDepths (x := x) (fm := (p + 2)) hG hN ((hflx _ (by omega) (by omega) (by omega)).trans h55) ha0 an.2 ((hflx _ (by omega) (by omega) (by omega)).trans ha) hx1 hx0 (by omega) hxF (h66x) (h67x) (h68x)) mX9_layDepths kX9_86 dX9_contract_79 (by omega) ((hflx _ (by omega) (by omega) (by omega)).trans h55) rfl (by decide) (Nat.le_of_ble_eq_true rfl) rfl (fun cq_4 hq_3 => ?_)
      obtain ⟨⟨Dy, h66y, hDy, hDoy⟩, ⟨Oy, h67y⟩, ⟨By, h68y⟩, hfly⟩ := hq_3
      refine A_iload_n (q := 83) X dX9_contract_82 rfl rfl ?_
      refine A_iconst (q := 84) X dX9_contract_83 rfl ?_
      refine A_iadd (q := 85) X dX9_contract_84 rfl ?_
      refine A_istore (q := 87) X dX9_contract_85 (by decide) (okP_s rfl rfl) rfl ?_
      have ei : i = p := by omega
      subst ei
      have e0 : l0.take i ++ sb (x.take 0) [0] ag = l0.take i := by rw [List.take_zero, sb_nil, List.append_nil]
      exact AW.loc (sS rfl (sS rfl (sS rfl (sZ rfl (by omega) (sZ rfl (by omega) (sS (congrArg (fun z => some (Value.int z)) (show zI 1 = zI (if (l0.take i ++ sb (x.take 0) [0] ag).length ≤ 200 then 1 else 0) from zb1 (by rw [e0, List.length_take]; omega))) (sZ rfl (by omega) (sN sE)))))))) (lp2_contract X hG hN h055 ha0 an haF hS hF hgd hl0 hA hZ hx1 hg1 hx0 hg0 hxF hgF hDy (fun j hj => by rw [hDoy (A + j) (by omega)]; exact hDx j hj) _ 0 _ (Nat.lt_succ_self _) (Nat.zero_le _) (by rw [e0]; exact hPo.keep ((hfly 60 (by omega) (by omega) (by omega)).trans ((hflx 60 (by omega) (by omega) (by omega)).trans rfl))) ⟨⟨_, h66y⟩, ⟨_, h67y⟩, ⟨_, h68y⟩⟩ (h66y) (fun k n0 n1 n2 n3 => ((hfly k (by omega) (by omega) (by omega)).trans ((hflx k (by omega) (by omega) (by omega)).trans (hf0 k n0 n1 n2 n3)))))
    · refine A_iload (q := 38) X dX9_contract_36 rfl rfl ?_
      refine A_if_eq (q := 41) (t := 56) X dX9_contract_38 (by decide) rfl rfl (fun hb38 => ?_) (fun hb38 => ?_)
      · exact absurd hb38 (by decide)
      · refine A_aload_n (q := 42) X dX9_contract_41 rfl rfl ?_
        refine A_aload_n (q := 43) X dX9_contract_42 rfl rfl ?_
        refine A_iload (q := 45) X dX9_contract_43 rfl rfl ?_
        refine A_iald (q := 46) (h := a) (i) X dX9_contract_45 ha0 ha (by omega) (by omega) (by decide) rfl ?_
        rw [hF i (by omega)]
        refine A_V1i (q := 49) X (c_X9_put (w := (l0.take i)) (t := (l0.getD i 0)) hG hN h55 hPo (by rw [List.length_take]; omega)) mX9_put kX9_83 dX9_contract_46 (by omega) h55 rfl (by decide) (Nat.le_of_ble_eq_true rfl) rfl (fun vq_7 cq_6 hq_5 => ?_)
        obtain ⟨rfl, hPo_8, hfp_9⟩ := hq_5
        have hal : (l0.take i ++ [l0.getD i 0]).length = i + 1 := by rw [List.length_append, List.length_take, Nat.min_eq_left (by omega)]; rfl
        refine A_beq (q := 52) (t := 56) X dX9_contract_49 rfl rfl (fun hb49 => ?_) (fun hb49 => ?_)
        · exfalso
          omega
        · refine A_iconst (q := 53) X dX9_contract_52 rfl ?_
          refine A_goto (q := 57) X dX9_contract_53 rfl ?_
          refine A_istore (q := 59) X dX9_contract_57 (by decide) (okP_s rfl rfl) rfl ?_
          refine A_iinc (q := 62) X dX9_contract_59 rfl (by decide) (okP_s rfl rfl) rfl ?_
          refine A_goto (q := 30) X dX9_contract_62 rfl ?_
          exact AW.loc (sS rfl (sS rfl (sS rfl (sS rfl (sS rfl (sS rfl (sZ rfl (by omega) (sN sE)))))))) (ih (i + 1) D O B _ (by omega) (by omega) (by rw [take_succ_getD (by omega)]; exact hPo_8) (((hfp_9 _ (by omega)).trans h66)) (((hfp_9 _ (by omega)).trans h67)) (((hfp_9 _ (by omega)).trans h68)) (fun k n0 n1 n2 n3 => ((hfp_9 k (by omega)).trans (hf0 k n0 n1 n2 n3))))
theorem ctr_pieces {l : List Int} {k : Nat} {body arg post : List Int} (e : l = l.take k ++ 1000 :: 1001 :: (body ++ (arg ++ post))) (h1 : en l (k + 1) = k + 2 + body.length) (h2 : en l (en l (k + 1)) = k + 2 + body.length + arg.length) : ctr l k = l.take k ++ (sb body [0] arg ++ l.drop (k + 2 + body.length + arg.length)) ∧ l.drop (k + 2) = body ++ (arg ++ post) ∧ l.drop (k + 2 + body.length) = arg ++ post := by
  have d0 : l.drop k = 1000 :: 1001 :: (body ++ (arg ++ post)) := by
    have e2 : l.take k ++ l.drop k = l.take k ++ 1000 :: 1001 :: (body ++ (arg ++ post)) := (List.take_append_drop k l).trans e
    exact List.append_cancel_left e2
  have d2 : l.drop (k + 2) = body ++ (arg ++ post) := by rw [← List.drop_drop, d0]; rfl
  have d3 : l.drop (k + 2 + body.length) = arg ++ post := by rw [← List.drop_drop, d2, List.drop_left]
  refine ⟨?_, d2, d3⟩
  unfold ctr sub_
  rw [h2, h1, d2, d3, Nat.add_sub_cancel_left, Nat.add_sub_cancel_left, List.take_left, List.take_left]
theorem getD_dropA {l x r : List Int} {s i : Nat} (h : l.drop s = x ++ r) (hi : i < x.length) : l.getD (s + i) 0 = x.getD i 0 := by
  rw [← getD_app_lt (r := r) hi, ← h]
  simp only [List.getD_eq_getElem?_getD, List.getElem?_drop]
set_option maxRecDepth 100000 in
set_option maxHeartbeats 4000000 in
theorem c_X9_contract {l : Launch} {G : Gm} {c : HP} {a p : Nat} {l0 : List Int} {th ts rmb obn tw pk : Int} {sd : Int64} (hG : injG G) (hN : G.2.1 = 72) (h55 : c 55 = ob9 G th ts rmb obn sd tw pk) (an : a ≠ 60 ∧ a ≠ 66 ∧ a ≠ 67 ∧ a ≠ 68) (hT : Mt G c a l0) (hgd : Gd l0) (hr : rx l0 p) (hO : Mr G c 60) (hSc : Sc G c) : AMet l G yX9_contract cX9_contract 8 ((some .boolean)) (rmR 2 48) [.ref (G.1 55), .ref (G.1 a), .int (zI ((p : Nat) : Int))] c (Qi (fun v c' => v = zI (if (ctr l0 p).length ≤ 200 then 1 else 0) ∧ Po G c' (ctr l0 p) ∧ Sc G c' ∧ (∀ k, k ≠ 60 → k ≠ 66 → k ≠ 67 → k ≠ 68 → c' k = c k))) := by
  refine AMet.of (vl := [some (.ref (G.1 55)), some (.ref (G.1 a)), some (.int (zI ((p : Nat) : Int)))]) (by decide) hG (Nat.le_of_ble_eq_true rfl) rfl ?_
  intro K X
  have X : Fx l G K cX9_contract 8 RX9 ((some .boolean)) (rmR 2 48) := X
  obtain ⟨ha0, hl0, F, ha, hS, hF⟩ := hT
  obtain ⟨hN6, F6, h60⟩ := hO
  obtain ⟨⟨D, h66⟩, ⟨O, h67⟩, ⟨B, h68⟩⟩ := hSc
  obtain ⟨c1, cs, body, arg, post, e, w1, w2, w3, w4, hc1, he1, he2, hn⟩ := rx_split hgd hr
  obtain ⟨ec, d2, d3⟩ := ctr_pieces e he1 he2
  rw [he1] at he2
  rw [ec]
  have hmb : ∀ t ∈ body, t ∈ l0 := fun t ht => List.mem_of_mem_drop (d2 ▸ List.mem_append_left _ ht)
  have hma : ∀ t ∈ arg, t ∈ l0 := fun t ht => List.mem_of_mem_drop (d3 ▸ List.mem_append_left _ ht)
  have hgk : ∀ t ∈ l0, 0 ≤ t ∧ t ≤ 1001 := fun t ht => by have := hgd.tok ht; omega
  have hag := wfr_le arg _ w3
  simp only [List.length_cons, List.length_nil] at hag
  refine A_aload_n (q := 1) X dX9_contract_0 rfl rfl ?_
  refine A_iload_n (q := 2) X dX9_contract_1 rfl rfl ?_
  refine A_iconst (q := 3) X dX9_contract_2 rfl ?_
  refine A_iadd (q := 4) X dX9_contract_3 rfl ?_
  rw [show zI (((p : Nat) : Int) + 1) = zI ((p + 1 : Nat) : Int) from congrArg zI (by omega)]
  refine A_S2i (q := 7) X (c_end (p := (p + 1)) hG ⟨ha0, hl0, F, ha, hS, hF⟩ hgd (by omega)) mX9_end kX9_76 dX9_contract_4 (by decide) (Nat.le_of_ble_eq_true rfl) rfl (fun vq_3 cq_2 hq_1 => ?_)
  obtain ⟨rfl, hq_1⟩ := hq_1
  obtain rfl := hq_1.symm
  rw [he1]
  refine A_istore_n (q := 8) X dX9_contract_7 (by decide) (okP_s rfl rfl) rfl ?_
  refine A_aload_n (q := 9) X dX9_contract_8 rfl rfl ?_
  refine A_iload_n (q := 10) X dX9_contract_9 rfl rfl ?_
  refine A_S2i (q := 13) X (c_end (p := (p + 2 + body.length)) hG ⟨ha0, hl0, F, ha, hS, hF⟩ hgd (by omega)) mX9_end kX9_76 dX9_contract_10 (by decide) (Nat.le_of_ble_eq_true rfl) rfl (fun vq_6 cq_5 hq_4 => ?_)
  obtain ⟨rfl, hq_4⟩ := hq_4
  obtain rfl := hq_4.symm
  rw [he2]
  refine A_istore (q := 15) X dX9_contract_13 (by decide) (okP_s rfl rfl) rfl ?_
  refine A_aload_n (q := 16) X dX9_contract_15 rfl rfl ?_
  refine A_getf (q := 19) X fX9_22 dX9_contract_16 (by omega) h55 rfl rfl ?_
  refine A_sipush (q := 22) X dX9_contract_19 (by decide) rfl ?_
  refine A_iconst (q := 23) X dX9_contract_22 rfl ?_
  refine A_iast (q := 24) (h := 60) 200 X dX9_contract_23 (by omega) h60 (by omega) (by omega) (by decide) rfl ?_
  refine A_iconst (q := 25) X dX9_contract_24 rfl ?_
  refine A_istore (q := 27) X dX9_contract_25 (by decide) (okP_s rfl rfl) rfl ?_
  refine A_iconst (q := 28) X dX9_contract_27 rfl ?_
  refine A_istore (q := 30) X dX9_contract_28 (by decide) (okP_s rfl rfl) rfl ?_
  have hm : ∀ c2 : HP, c2 60 = aI G 201 (va_up F6 200 0) → Mt G c2 60 [] := fun c2 h2 => ⟨by omega, by decide, _, h2, lk_eq, fun k hk => absurd hk (Nat.not_lt_zero _)⟩
  exact AW.loc (sS rfl (sS rfl (sS rfl (sS rfl (sS rfl (sS rfl (sZ rfl rfl (sN sE)))))))) (lp1_contract (x := body) (ag := arg) (A := p + 2 + body.length) X hG hN h55 ha0 an ha hS hF hgd hl0 rfl (by omega) ⟨w2, fun t ht => hgd.2.2 t (hmb t ht)⟩ ⟨w3, fun t ht => hgd.2.2 t (hma t ht)⟩ (fun t ht => hgk t (hmb t ht)) (fun t ht => hgk t (hma t ht)) (fun i hi => (hF _ (by omega)).trans (getD_dropA d2 hi)) (fun i hi => (hF _ (by omega)).trans (getD_dropA d3 hi)) (by omega) _ 0 D O B _ (Nat.lt_succ_self _) (Nat.zero_le _) ⟨fun _ => hm _ lk_eq, _, hm _ lk_eq⟩ (lk_ne (by decide) h66) (lk_ne (by decide) h67) (lk_ne (by decide) h68) (fun k n0 n1 n2 n3 => lk_ne n0 rfl))
