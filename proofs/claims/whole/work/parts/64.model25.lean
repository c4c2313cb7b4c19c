/-! THE MODEL's machine: merging -/
theorem prt_c {t : Int} (h : 1000000 ≤ t) : prt t = 1 + kn t := by unfold prt; rw [if_pos h]
theorem mg_eqs {wl : List Int} {p : Nat} (h : XG wl) (hp : p + 1 < wl.length) (h0 : 1000000 ≤ wl.getD p 0) (h1 : 1000000 ≤ wl.getD (p + 1) 0) : p + 2 < wl.length ∧ bh wl (bh wl (p + 2) 1) (kn (wl.getD (p + 1) 0)) = (bh wl (p + 1) 1) ∧ bh wl (bh wl (p + 1) 1) (kn (wl.getD p 0)) = (bh wl p 1) ∧ pcM wl p = (clo ((kn (wl.getD (p + 1) 0)) + (kn (wl.getD p 0)) - (min (kh (wl.getD (p + 1) 0)) (kn (wl.getD p 0)))) ((kh (wl.getD (p + 1) 0)) - (min (kh (wl.getD (p + 1) 0)) (kn (wl.getD p 0))) + (kh (wl.getD p 0))) :: sl wl (p + 2) (bh wl (p + 2) 1)) ++ (mgE wl (bh wl (p + 2) 1) (wl.getD p 0) (bh wl (p + 1) 1) (bh wl p 1) (kn (wl.getD (p + 1) 0)) ++ sl wl (bh wl (bh wl (p + 1) 1) (min (kh (wl.getD (p + 1) 0)) (kn (wl.getD p 0)))) (bh wl p 1)) := by
  have hp2 : p + 2 < wl.length := h.next hp (by rw [prt_c h1]; omega)
  have s1 := ent_str h hp h0
  have s2 := ent_str h hp2 h1
  have e1 : bh wl (bh wl (p + 2) 1) (kn (wl.getD (p + 1) 0)) = (bh wl (p + 1) 1) := s2.2.1.symm
  have e2 : bh wl (bh wl (p + 1) 1) (kn (wl.getD p 0)) = (bh wl p 1) := s1.2.1.symm
  refine ⟨hp2, e1, e2, ?_⟩
  unfold pcM
  rw [bh_add wl (p + 2) (1 + (kn (wl.getD (p + 1) 0))) (kn (wl.getD p 0)), bh_add wl (p + 2) (1 + (kn (wl.getD (p + 1) 0))) (min (kh (wl.getD (p + 1) 0)) (kn (wl.getD p 0))), bh_add wl (p + 2) 1 (kn (wl.getD (p + 1) 0)), e1, e2]
  simp only [List.append_assoc, List.cons_append]
theorem min_c (a b : Nat) : (a ≤ b ∧ min a b = a) ∨ (b ≤ a ∧ min a b = b) := by
  rcases Nat.le_total a b with z | z
  · exact Or.inl ⟨z, Nat.min_eq_left z⟩
  · exact Or.inr ⟨z, Nat.min_eq_right z⟩
set_option maxRecDepth 100000 in
set_option maxHeartbeats 4000000 in
theorem lp2_X9_merge {l : Launch} {G : Gm} {K : Cx} {c0 : HP} {x wl : List Int} {p : Nat} {th ts rmb obn pk : Int} {sd : Int64} (X : Fx l G K cX9_merge 13 RX9 (none) (rmR 2 44)) (hG : injG G) (hN : G.2.1 = 72) (hXG : XG wl) (hp : p + 1 < wl.length) (h0 : 1000000 ≤ wl.getD p 0) (h1 : 1000000 ≤ wl.getD (p + 1) 0) (hA : AX G c0 th ts rmb obn sd pk ((x ++ (clo ((kn (wl.getD (p + 1) 0)) + (kn (wl.getD p 0)) - (min (kh (wl.getD (p + 1) 0)) (kn (wl.getD p 0)))) ((kh (wl.getD (p + 1) 0)) - (min (kh (wl.getD (p + 1) 0)) (kn (wl.getD p 0))) + (kh (wl.getD p 0))) :: sl wl (p + 2) (bh wl (p + 2) 1))) ++ mgE wl (bh wl (p + 2) 1) (wl.getD p 0) (bh wl (p + 1) 1) (bh wl p 1) (kn (wl.getD (p + 1) 0)))) (hWw : Ww G c0 wl) : ∀ (n : Nat) (i : Nat), 1000 - i < n → i ≤ (min (kh (wl.getD (p + 1) 0)) (kn (wl.getD p 0))) → AW G K (Qv (fun c' => AX G c' th ts rmb obn sd pk (x ++ pcM wl p) ∧ (∀ k, k ≠ 55 → k ≠ 70 → c' k = c0 k))) 195 (mkL [some (.ref (G.1 55)), none, none, none, some (.int (zI (((bh wl p 1) : Nat) : Int))), none, none, none, some (.int (zI (((kh (wl.getD (p + 1) 0)) : Nat) : Int))), none, none, some (.int (zI (((bh wl (bh wl (p + 1) 1) i) : Nat) : Int))), some (.int (zI ((i : Nat) : Int)))]) [] c0 := by
  intro n
  induction n with
  | zero => intro i hmz; exact absurd hmz (Nat.not_lt_zero _)
  | succ n ih =>
    intro i hmz hi
    obtain ⟨hp2, eF, eE, ePM⟩ := mg_eqs hXG hp h0 h1
    have s1 := ent_str hXG hp h0
    have s2 := ent_str hXG hp2 h1
    rw [show p + 1 + 1 = p + 2 from rfl] at s2
    have nm0 := hXG.xb.num (k := p) (by omega) h0
    have nm1 := hXG.xb.num (k := p + 1) (by omega) h1
    have hEB : (bh wl (p + 1) 1) ≤ (bh wl p 1) := by rw [← eE]; exact bh_ge _ _ _
    have hFE : (bh wl (p + 2) 1) ≤ (bh wl (p + 1) 1) := by rw [← eF]; exact bh_ge _ _ _
    have hBl := s1.2.2.1
    have hgF := bh_ge wl (p + 2) 1
    have hdr := min_c (kh (wl.getD (p + 1) 0)) (kn (wl.getD p 0))
    obtain ⟨hwl, F, h69, hWS, hWF⟩ := (id hWw : Ww G c0 wl)
    have bli := bh_le (l := wl) (s := (bh wl (p + 1) 1)) i (by omega)
    refine A_iload (q := 197) X dX9_merge_195 rfl rfl ?_
    refine A_iload (q := 199) X dX9_merge_197 rfl rfl ?_
    refine A_icmp_ge (q := 202) (t := 226) X dX9_merge_199 (by omega) (by omega) rfl rfl (fun hb199 => ?_) (fun hb199 => ?_)
    · have ei : i = (min (kh (wl.getD (p + 1) 0)) (kn (wl.getD p 0))) := by have g := s1.1 i (by omega); omega
      have bli := bh_le (l := wl) (s := (bh wl (p + 1) 1)) i (by omega)
      have g9 := s1.1 i (by omega)
      refine A_aload_n (q := 227) X dX9_merge_226 rfl rfl ?_
      refine A_iload (q := 229) X dX9_merge_227 rfl rfl ?_
      refine A_iload (q := 231) X dX9_merge_229 rfl rfl ?_
      refine A_V2v (q := 234) X (c_X9_addPart (wl := wl) (i := ((bh wl (bh wl (p + 1) 1) i))) (j := ((bh wl p 1))) hG hN hA hWw (by omega) (by omega)) mX9_addPart kX9_169 dX9_merge_231 (by omega) (hA).choose_spec.1 rfl (by decide) (Nat.le_of_ble_eq_true rfl) rfl (fun cq_2 hq_1 => ?_)
      obtain ⟨hA_3, hf_4⟩ := hq_1
      exact A_return X dX9_merge_234 ⟨AX_eq hA_3 (by rw [ePM, ei, ← List.append_assoc, ← List.append_assoc]), (fun k n0 n1 => ((hf_4 k (by omega) (by omega)).trans rfl))⟩
    · refine A_iload (q := 204) X dX9_merge_202 rfl rfl ?_
      refine A_iload (q := 206) X dX9_merge_204 rfl rfl ?_
      refine A_icmp_ge (q := 209) (t := 226) X dX9_merge_206 (by omega) (by omega) rfl rfl (fun hb206 => ?_) (fun hb206 => ?_)
      · have ei : i = (min (kh (wl.getD (p + 1) 0)) (kn (wl.getD p 0))) := by have g := s1.1 i (by omega); omega
        have bli := bh_le (l := wl) (s := (bh wl (p + 1) 1)) i (by omega)
        have g9 := s1.1 i (by omega)
        refine A_aload_n (q := 227) X dX9_merge_226 rfl rfl ?_
        refine A_iload (q := 229) X dX9_merge_227 rfl rfl ?_
        refine A_iload (q := 231) X dX9_merge_229 rfl rfl ?_
        refine A_V2v (q := 234) X (c_X9_addPart (wl := wl) (i := ((bh wl (bh wl (p + 1) 1) i))) (j := ((bh wl p 1))) hG hN hA hWw (by omega) (by omega)) mX9_addPart kX9_169 dX9_merge_231 (by omega) (hA).choose_spec.1 rfl (by decide) (Nat.le_of_ble_eq_true rfl) rfl (fun cq_6 hq_5 => ?_)
        obtain ⟨hA_7, hf_8⟩ := hq_5
        exact A_return X dX9_merge_234 ⟨AX_eq hA_7 (by rw [ePM, ei, ← List.append_assoc, ← List.append_assoc]), (fun k n0 n1 => ((hf_8 k (by omega) (by omega)).trans rfl))⟩
      · have hil : i < (kn (wl.getD p 0)) := by rcases Nat.lt_or_ge i (kn (wl.getD p 0)) with z | z; exact z; (exfalso; have z2 : i = (kn (wl.getD p 0)) := by omega); (rw [z2, eE] at hb206; omega)
        refine A_aload_n (q := 210) X dX9_merge_209 rfl rfl ?_
        refine A_getf (q := 213) X fX9_50 dX9_merge_210 (by omega) hA.choose_spec.1 rfl rfl ?_
        refine A_iload (q := 215) X dX9_merge_213 rfl rfl ?_
        refine A_S2i (q := 218) X (c_endW (p := ((bh wl (bh wl (p + 1) 1) i))) hG hN hWw hXG (by omega)) mX9_end kX9_76 dX9_merge_215 (by decide) (Nat.le_of_ble_eq_true rfl) rfl (fun vq_11 cq_10 hq_9 => ?_)
        obtain ⟨rfl, hq_9⟩ := hq_9
        obtain rfl := hq_9.symm
        rw [show bh wl (bh wl (bh wl (p + 1) 1) i) 1 = bh wl (bh wl (p + 1) 1) (i + 1) from (bh_add wl (bh wl (p + 1) 1) i 1).symm]
        refine A_istore (q := 220) X dX9_merge_218 (by decide) (okP_n rfl) rfl ?_
        refine A_iinc (q := 223) X dX9_merge_220 rfl (by decide) (okP_s rfl rfl) rfl ?_
        refine A_goto (q := 195) X dX9_merge_223 rfl ?_
        exact AW.loc (sS rfl (sN (sN (sN (sS rfl (sN (sN (sN (sS rfl (sN (sN (sS rfl (sZ rfl (by omega) sE))))))))))))) (ih (i + 1) (by omega) (by omega))
set_option maxRecDepth 100000 in
set_option maxHeartbeats 4000000 in
theorem lp1_X9_merge {l : Launch} {G : Gm} {K : Cx} {c0 : HP} {x wl : List Int} {p : Nat} {th ts rmb obn pk : Int} {sd : Int64} (X : Fx l G K cX9_merge 13 RX9 (none) (rmR 2 44)) (hG : injG G) (hN : G.2.1 = 72) (hXG : XG wl) (hp : p + 1 < wl.length) (h0 : 1000000 ≤ wl.getD p 0) (h1 : 1000000 ≤ wl.getD (p + 1) 0) (hWw0 : Ww G c0 wl) : ∀ (n : Nat) (i : Nat) (c : HP), 1000 - i < n → i ≤ (kn (wl.getD (p + 1) 0)) → AX G c th ts rmb obn sd pk ((x ++ (clo ((kn (wl.getD (p + 1) 0)) + (kn (wl.getD p 0)) - (min (kh (wl.getD (p + 1) 0)) (kn (wl.getD p 0)))) ((kh (wl.getD (p + 1) 0)) - (min (kh (wl.getD (p + 1) 0)) (kn (wl.getD p 0))) + (kh (wl.getD p 0))) :: sl wl (p + 2) (bh wl (p + 2) 1))) ++ mgE wl (bh wl (p + 2) 1) (wl.getD p 0) (bh wl (p + 1) 1) (bh wl p 1) i) → (∀ k, k ≠ 55 → k ≠ 70 → c k = c0 k) → AW G K (Qv (fun c' => AX G c' th ts rmb obn sd pk (x ++ pcM wl p) ∧ (∀ k, k ≠ 55 → k ≠ 70 → c' k = c0 k))) 137 (mkL [some (.ref (G.1 55)), some (.int (zI ((p : Nat) : Int))), none, some (.int (zI (((bh wl (p + 1) 1) : Nat) : Int))), some (.int (zI (((bh wl p 1) : Nat) : Int))), none, none, none, some (.int (zI (((kh (wl.getD (p + 1) 0)) : Nat) : Int))), none, none, some (.int (zI (((bh wl (bh wl (p + 2) 1) i) : Nat) : Int))), none]) [] c := by
  intro n
  induction n with
  | zero => intro i c hmz; exact absurd hmz (Nat.not_lt_zero _)
  | succ n ih =>
    intro i c hmz hi hA hf0
    obtain ⟨hp2, eF, eE, ePM⟩ := mg_eqs hXG hp h0 h1
    have s1 := ent_str hXG hp h0
    have s2 := ent_str hXG hp2 h1
    rw [show p + 1 + 1 = p + 2 from rfl] at s2
    have nm0 := hXG.xb.num (k := p) (by omega) h0
    have nm1 := hXG.xb.num (k := p + 1) (by omega) h1
    have hEB : (bh wl (p + 1) 1) ≤ (bh wl p 1) := by rw [← eE]; exact bh_ge _ _ _
    have hFE : (bh wl (p + 2) 1) ≤ (bh wl (p + 1) 1) := by rw [← eF]; exact bh_ge _ _ _
    have hBl := s1.2.2.1
    have hgF := bh_ge wl (p + 2) 1
    have hdr := min_c (kh (wl.getD (p + 1) 0)) (kn (wl.getD p 0))
    have hWw := hWw0.keep (hf0 69 (by decide) (by decide))
    obtain ⟨hwl, F, h69, hWS, hWF⟩ := (id hWw : Ww G c wl)
    have bli := bh_le (l := wl) (s := (bh wl (p + 2) 1)) i (by omega)
    refine A_iload (q := 139) X dX9_merge_137 rfl rfl ?_
    refine A_iload_n (q := 140) X dX9_merge_139 rfl rfl ?_
    refine A_icmp_ge (q := 143) (t := 189) X dX9_merge_140 (by omega) (by omega) rfl rfl (fun hb140 => ?_) (fun hb140 => ?_)
    · refine A_iload_n (q := 190) X dX9_merge_189 rfl rfl ?_
      refine A_istore (q := 192) X dX9_merge_190 (by decide) (okP_n rfl) rfl ?_
      refine A_iconst (q := 193) X dX9_merge_192 rfl ?_
      refine A_istore (q := 195) X dX9_merge_193 (by decide) (okP_s rfl rfl) rfl ?_
      have ei : i = (kn (wl.getD (p + 1) 0)) := by have g := s2.1 i hi; rw [eF] at g; omega
      rw [ei] at hA
      refine AW.loc (sS rfl (sN (sN (sN (sS rfl (sN (sN (sN (sS rfl (sN (sN (sS (by rw [bh_0]; rfl) (sZ rfl rfl sE))))))))))))) (AW.mono (lp2_X9_merge X hG hN hXG hp h0 h1 hA hWw _ 0 (Nat.lt_succ_self _) (Nat.zero_le _)) ?_)
      rintro r c9 ⟨hr9, hA9, hf9⟩
      exact ⟨hr9, hA9, fun k n0 n1 => (hf9 k n0 n1).trans (hf0 k n0 n1)⟩
    · have hil : i < (kn (wl.getD (p + 1) 0)) := by rcases Nat.lt_or_ge i (kn (wl.getD (p + 1) 0)) with z | z; exact z; (exfalso; have z2 : i = (kn (wl.getD (p + 1) 0)) := by omega); (rw [z2, eF] at hb140; omega)
      have bl2 := bh_le (l := wl) (s := (bh wl (p + 2) 1)) (i + 1) (by omega)
      have bm := bh_mono wl (bh wl (p + 2) 1) i 1
      have ht0 := hXG.ta (k := p) (by omega)
      refine A_aload_n (q := 144) X dX9_merge_143 rfl rfl ?_
      refine A_aload_n (q := 145) X dX9_merge_144 rfl rfl ?_
      refine A_getf (q := 148) X fX9_50 dX9_merge_145 (by omega) hA.choose_spec.1 rfl rfl ?_
      refine A_iload_n (q := 149) X dX9_merge_148 rfl rfl ?_
      refine A_iald (q := 150) (h := 69) (p) X dX9_merge_149 (by omega) h69 (by omega) (by omega) (by decide) rfl ?_
      rw [hWF (p) (by omega)]
      refine A_V1v (q := 153) X (c_X9_add (t := (wl.getD (p) 0)) hG hN hA) mX9_add kX9_165 dX9_merge_150 (by omega) hA.choose_spec.1 rfl (by decide) (Nat.le_of_ble_eq_true rfl) rfl (fun cq_2 hq_1 => ?_)
      obtain ⟨hA_3, hf_4⟩ := hq_1
      refine A_aload_n (q := 154) X dX9_merge_153 rfl rfl ?_
      refine A_iload (q := 156) X dX9_merge_154 rfl rfl ?_
      refine A_aload_n (q := 157) X dX9_merge_156 rfl rfl ?_
      refine A_getf (q := 160) X fX9_50 dX9_merge_157 (by omega) hA_3.choose_spec.1 rfl rfl ?_
      refine A_iload (q := 162) X dX9_merge_160 rfl rfl ?_
      refine A_S2i (q := 165) X (c_endW (p := ((bh wl (bh wl (p + 2) 1) i))) hG hN (hWw.keep (((hf_4 69 (by omega) (by omega)).trans rfl))) hXG (by omega)) mX9_end kX9_76 dX9_merge_162 (by decide) (Nat.le_of_ble_eq_true rfl) rfl (fun vq_7 cq_6 hq_5 => ?_)
      obtain ⟨rfl, hq_5⟩ := hq_5
      obtain rfl := hq_5.symm
      rw [show bh wl (bh wl (bh wl (p + 2) 1) i) 1 = bh wl (bh wl (p + 2) 1) (i + 1) from (bh_add wl (bh wl (p + 2) 1) i 1).symm]
      refine A_V2v (q := 168) X (c_X9_addPart (wl := wl) (i := ((bh wl (bh wl (p + 2) 1) i))) (j := ((bh wl (bh wl (p + 2) 1) (i + 1)))) hG hN hA_3 (hWw.keep (((hf_4 69 (by omega) (by omega)).trans rfl))) (by omega) (by omega)) mX9_addPart kX9_169 dX9_merge_165 (by omega) (hA_3).choose_spec.1 rfl (by decide) (Nat.le_of_ble_eq_true rfl) rfl (fun cq_9 hq_8 => ?_)
      obtain ⟨hA_10, hf_11⟩ := hq_8
      refine A_aload_n (q := 169) X dX9_merge_168 rfl rfl ?_
      refine A_iload_n (q := 170) X dX9_merge_169 rfl rfl ?_
      refine A_iload (q := 172) X dX9_merge_170 rfl rfl ?_
      refine A_V2v (q := 175) X (c_X9_addPart (wl := wl) (i := ((bh wl (p + 1) 1))) (j := ((bh wl p 1))) hG hN hA_10 (hWw.keep (((hf_11 69 (by omega) (by omega)).trans ((hf_4 69 (by omega) (by omega)).trans rfl)))) (by omega) (by omega)) mX9_addPart kX9_169 dX9_merge_172 (by omega) (hA_10).choose_spec.1 rfl (by decide) (Nat.le_of_ble_eq_true rfl) rfl (fun cq_13 hq_12 => ?_)
      obtain ⟨hA_14, hf_15⟩ := hq_12
      refine A_aload_n (q := 176) X dX9_merge_175 rfl rfl ?_
      refine A_getf (q := 179) X fX9_50 dX9_merge_176 (by omega) hA_14.choose_spec.1 rfl rfl ?_
      refine A_iload (q := 181) X dX9_merge_179 rfl rfl ?_
      refine A_S2i (q := 184) X (c_endW (p := ((bh wl (bh wl (p + 2) 1) i))) hG hN (hWw.keep (((hf_15 69 (by omega) (by omega)).trans ((hf_11 69 (by omega) (by omega)).trans ((hf_4 69 (by omega) (by omega)).trans rfl))))) hXG (by omega)) mX9_end kX9_76 dX9_merge_181 (by decide) (Nat.le_of_ble_eq_true rfl) rfl (fun vq_18 cq_17 hq_16 => ?_)
      obtain ⟨rfl, hq_16⟩ := hq_16
      obtain rfl := hq_16.symm
      rw [show bh wl (bh wl (bh wl (p + 2) 1) i) 1 = bh wl (bh wl (p + 2) 1) (i + 1) from (bh_add wl (bh wl (p + 2) 1) i 1).symm]
      refine A_istore (q := 186) X dX9_merge_184 (by decide) (okP_n rfl) rfl ?_
      refine A_goto (q := 137) X dX9_merge_186 rfl ?_
      exact AW.loc (sS rfl (sS rfl (sN (sS rfl (sS rfl (sN (sN (sN (sS rfl (sN (sN (sS rfl (sN sE))))))))))))) (ih (i + 1) _ (by omega) (by omega) (AX_eq hA_14 (by show _ = (x ++ (clo ((kn (wl.getD (p + 1) 0)) + (kn (wl.getD p 0)) - (min (kh (wl.getD (p + 1) 0)) (kn (wl.getD p 0)))) ((kh (wl.getD (p + 1) 0)) - (min (kh (wl.getD (p + 1) 0)) (kn (wl.getD p 0))) + (kh (wl.getD p 0))) :: sl wl (p + 2) (bh wl (p + 2) 1))) ++ (mgE wl (bh wl (p + 2) 1) (wl.getD p 0) (bh wl (p + 1) 1) (bh wl p 1) i ++ (wl.getD p 0 :: (sl wl (bh wl (bh wl (p + 2) 1) i) (bh wl (bh wl (p + 2) 1) (i + 1)) ++ sl wl (bh wl (p + 1) 1) (bh wl p 1)))); simp only [List.append_assoc, List.cons_append, List.nil_append])) (fun k n0 n1 => ((hf_15 k (by omega) (by omega)).trans ((hf_11 k (by omega) (by omega)).trans ((hf_4 k (by omega) (by omega)).trans (hf0 k n0 n1))))))
set_option maxRecDepth 100000 in
set_option maxHeartbeats 4000000 in
theorem c_X9_merge {l : Launch} {G : Gm} {c : HP} {x wl : List Int} {p : Nat} {th ts rmb obn pk : Int} {sd : Int64} (hG : injG G) (hN : G.2.1 = 72) (hXG : XG wl) (hp : p + 1 < wl.length) (h0 : 1000000 ≤ wl.getD p 0) (h1 : 1000000 ≤ wl.getD (p + 1) 0) (hA : AX G c th ts rmb obn sd pk x) (hWw : Ww G c wl) : AMet l G yX9_merge cX9_merge 13 (none) (rmR 2 44) [.ref (G.1 55), .int (zI ((p : Nat) : Int)), .int (zI (((p + 1) : Nat) : Int)), .int (zI (((bh wl (p + 1) 1) : Nat) : Int)), .int (zI (((bh wl p 1) : Nat) : Int))] c (Qv (fun c' => AX G c' th ts rmb obn sd pk (x ++ pcM wl p) ∧ (∀ k, k ≠ 55 → k ≠ 70 → c' k = c k))) := by
  refine AMet.of (vl := [some (.ref (G.1 55)), some (.int (zI ((p : Nat) : Int))), some (.int (zI (((p + 1) : Nat) : Int))), some (.int (zI (((bh wl (p + 1) 1) : Nat) : Int))), some (.int (zI (((bh wl p 1) : Nat) : Int)))]) (by decide) hG (Nat.le_of_ble_eq_true rfl) rfl ?_
  intro K X
  have X : Fx l G K cX9_merge 13 RX9 (none) (rmR 2 44) := X
  obtain ⟨hp2, eF, eE, ePM⟩ := mg_eqs hXG hp h0 h1
  have s1 := ent_str hXG hp h0
  have s2 := ent_str hXG hp2 h1
  rw [show p + 1 + 1 = p + 2 from rfl] at s2
  have nm0 := hXG.xb.num (k := p) (by omega) h0
  have nm1 := hXG.xb.num (k := p + 1) (by omega) h1
  have hEB : (bh wl (p + 1) 1) ≤ (bh wl p 1) := by rw [← eE]; exact bh_ge _ _ _
  have hFE : (bh wl (p + 2) 1) ≤ (bh wl (p + 1) 1) := by rw [← eF]; exact bh_ge _ _ _
  have hBl := s1.2.2.1
  have hgF := bh_ge wl (p + 2) 1
  have hdr := min_c (kh (wl.getD (p + 1) 0)) (kn (wl.getD p 0))
  obtain ⟨hwl, F, h69, hWS, hWF⟩ := (id hWw : Ww G c wl)
  have ht0 := hXG.ta (k := p) (by omega)
  have ht1 := hXG.ta (k := p + 1) (by omega)
  refine A_aload_n (q := 1) X dX9_merge_0 rfl rfl ?_
  refine A_getf (q := 4) X fX9_50 dX9_merge_1 (by omega) hA.choose_spec.1 rfl rfl ?_
  refine A_iload_n (q := 5) X dX9_merge_4 rfl rfl ?_
  refine A_iald (q := 6) (h := 69) (p) X dX9_merge_5 (by omega) h69 (by omega) (by omega) (by decide) rfl ?_
  rw [hWF (p) (by omega)]
  refine A_S1i (q := 9) X (c_X9_parts hG (by omega) (by omega)) mX9_parts kX9_64 dX9_merge_6 (by decide) (Nat.le_of_ble_eq_true rfl) rfl (fun vq_3 cq_2 hq_1 => ?_)
  obtain ⟨rfl, hq_1⟩ := hq_1
  obtain rfl := hq_1.symm
  refine A_iconst (q := 10) X dX9_merge_9 rfl ?_
  refine A_isub (q := 11) X dX9_merge_10 rfl ?_
  rw [show (((prt (wl.getD p 0)) : Nat) : Int) - 1 = (((kn (wl.getD p 0)) : Nat) : Int) from by rw [prt_c h0]; omega]
  refine A_istore (q := 13) X dX9_merge_11 (by decide) (okP_s rfl rfl) rfl ?_
  refine A_aload_n (q := 14) X dX9_merge_13 rfl rfl ?_
  refine A_getf (q := 17) X fX9_50 dX9_merge_14 (by omega) hA.choose_spec.1 rfl rfl ?_
  refine A_iload_n (q := 18) X dX9_merge_17 rfl rfl ?_
  refine A_iald (q := 19) (h := 69) (p) X dX9_merge_18 (by omega) h69 (by omega) (by omega) (by decide) rfl ?_
  rw [hWF (p) (by omega)]
  refine A_ldc (q := 21) (n := 1000000) X dX9_merge_19 nX9_63 (by decide) rfl ?_
  refine A_isub (q := 22) X dX9_merge_21 rfl ?_
  refine A_sipush (q := 25) X dX9_merge_22 (by decide) rfl ?_
  refine A_irem (q := 26) X dX9_merge_25 (by omega) (by omega) (by decide) (by decide) rfl ?_
  rw [show (wl.getD p 0 - 1000000) % 1000 = (((kh (wl.getD p 0)) : Nat) : Int) from by unfold kh; omega]
  refine A_istore (q := 28) X dX9_merge_26 (by decide) (okP_s rfl rfl) rfl ?_
  refine A_aload_n (q := 29) X dX9_merge_28 rfl rfl ?_
  refine A_getf (q := 32) X fX9_50 dX9_merge_29 (by omega) hA.choose_spec.1 rfl rfl ?_
  refine A_iload_n (q := 33) X dX9_merge_32 rfl rfl ?_
  refine A_iald (q := 34) (h := 69) ((p + 1)) X dX9_merge_33 (by omega) h69 (by omega) (by omega) (by decide) rfl ?_
  rw [hWF ((p + 1)) (by omega)]
  refine A_S1i (q := 37) X (c_X9_parts hG (by omega) (by omega)) mX9_parts kX9_64 dX9_merge_34 (by decide) (Nat.le_of_ble_eq_true rfl) rfl (fun vq_6 cq_5 hq_4 => ?_)
  obtain ⟨rfl, hq_4⟩ := hq_4
  obtain rfl := hq_4.symm
  refine A_iconst (q := 38) X dX9_merge_37 rfl ?_
  refine A_isub (q := 39) X dX9_merge_38 rfl ?_
  rw [show (((prt (wl.getD (p + 1) 0)) : Nat) : Int) - 1 = (((kn (wl.getD (p + 1) 0)) : Nat) : Int) from by rw [prt_c h1]; omega]
  refine A_istore (q := 41) X dX9_merge_39 (by decide) (okP_s rfl rfl) rfl ?_
  refine A_aload_n (q := 42) X dX9_merge_41 rfl rfl ?_
  refine A_getf (q := 45) X fX9_50 dX9_merge_42 (by omega) hA.choose_spec.1 rfl rfl ?_
  refine A_iload_n (q := 46) X dX9_merge_45 rfl rfl ?_
  refine A_iald (q := 47) (h := 69) ((p + 1)) X dX9_merge_46 (by omega) h69 (by omega) (by omega) (by decide) rfl ?_
  rw [hWF ((p + 1)) (by omega)]
  refine A_ldc (q := 49) (n := 1000000) X dX9_merge_47 nX9_63 (by decide) rfl ?_
  refine A_isub (q := 50) X dX9_merge_49 rfl ?_
  refine A_sipush (q := 53) X dX9_merge_50 (by decide) rfl ?_
  refine A_irem (q := 54) X dX9_merge_53 (by omega) (by omega) (by decide) (by decide) rfl ?_
  rw [show (wl.getD (p + 1) 0 - 1000000) % 1000 = (((kh (wl.getD (p + 1) 0)) : Nat) : Int) from by unfold kh; omega]
  refine A_istore (q := 56) X dX9_merge_54 (by decide) (okP_s rfl rfl) rfl ?_
  refine A_iload (q := 58) X dX9_merge_56 rfl rfl ?_
  refine A_iload (q := 60) X dX9_merge_58 rfl rfl ?_
  refine A_icmp_ge (q := 63) (t := 74) X dX9_merge_60 (by omega) (by omega) rfl rfl (fun hb60 => ?_) (fun hb60 => ?_)
  · refine A_iload (q := 76) X dX9_merge_74 rfl rfl ?_
    refine A_istore (q := 78) X dX9_merge_76 (by decide) (okP_s rfl rfl) rfl ?_
    refine A_aload_n (q := 79) X dX9_merge_78 rfl rfl ?_
    refine A_ldc (q := 81) (n := 1000000) X dX9_merge_79 nX9_63 (by decide) rfl ?_
    refine A_sipush (q := 84) X dX9_merge_81 (by decide) rfl ?_
    refine A_iload (q := 86) X dX9_merge_84 rfl rfl ?_
    refine A_imul (q := 87) X dX9_merge_86 rfl ?_
    refine A_iadd (q := 88) X dX9_merge_87 rfl ?_
    refine A_iload (q := 90) X dX9_merge_88 rfl rfl ?_
    refine A_iload (q := 92) X dX9_merge_90 rfl rfl ?_
    refine A_icmp_ge (q := 95) (t := 100) X dX9_merge_92 (by omega) (by omega) rfl rfl (fun hb92 => ?_) (fun hb92 => ?_)
    · refine A_iload (q := 102) X dX9_merge_100 rfl rfl ?_
      refine A_iload (q := 104) X dX9_merge_102 rfl rfl ?_
      refine A_isub (q := 105) X dX9_merge_104 rfl ?_
      refine A_iload (q := 107) X dX9_merge_105 rfl rfl ?_
      refine A_iadd (q := 108) X dX9_merge_107 rfl ?_
      refine A_iadd (q := 109) X dX9_merge_108 rfl ?_
      rw [show zI ((1000000 + (1000 * (((kn (wl.getD (p + 1) 0)) : Nat) : Int))) + (((((kh (wl.getD (p + 1) 0)) : Nat) : Int) - (((kn (wl.getD p 0)) : Nat) : Int)) + (((kh (wl.getD p 0)) : Nat) : Int))) = zI (clo ((kn (wl.getD (p + 1) 0)) + (kn (wl.getD p 0)) - (min (kh (wl.getD (p + 1) 0)) (kn (wl.getD p 0)))) ((kh (wl.getD (p + 1) 0)) - (min (kh (wl.getD (p + 1) 0)) (kn (wl.getD p 0))) + (kh (wl.getD p 0)))) from congrArg zI (by unfold clo; omega)]
      refine A_V1v (q := 112) X (c_X9_add (t := (clo ((kn (wl.getD (p + 1) 0)) + (kn (wl.getD p 0)) - (min (kh (wl.getD (p + 1) 0)) (kn (wl.getD p 0)))) ((kh (wl.getD (p + 1) 0)) - (min (kh (wl.getD (p + 1) 0)) (kn (wl.getD p 0))) + (kh (wl.getD p 0))))) hG hN hA) mX9_add kX9_165 dX9_merge_109 (by omega) hA.choose_spec.1 rfl (by decide) (Nat.le_of_ble_eq_true rfl) rfl (fun cq_8 hq_7 => ?_)
      obtain ⟨hA_9, hf_10⟩ := hq_7
      refine A_aload_n (q := 113) X dX9_merge_112 rfl rfl ?_
      refine A_getf (q := 116) X fX9_50 dX9_merge_113 (by omega) hA_9.choose_spec.1 rfl rfl ?_
      refine A_iload_n (q := 117) X dX9_merge_116 rfl rfl ?_
      refine A_iconst (q := 118) X dX9_merge_117 rfl ?_
      refine A_iadd (q := 119) X dX9_merge_118 rfl ?_
      rw [show zI ((((p + 1) : Nat) : Int) + 1) = zI ((p + 2 : Nat) : Int) from congrArg zI (by omega)]
      refine A_S2i (q := 122) X (c_endW (p := ((p + 2))) hG hN (hWw.keep (((hf_10 69 (by omega) (by omega)).trans rfl))) hXG (by omega)) mX9_end kX9_76 dX9_merge_119 (by decide) (Nat.le_of_ble_eq_true rfl) rfl (fun vq_13 cq_12 hq_11 => ?_)
      obtain ⟨rfl, hq_11⟩ := hq_11
      obtain rfl := hq_11.symm
      refine A_istore (q := 124) X dX9_merge_122 (by decide) (okP_s rfl rfl) rfl ?_
      refine A_aload_n (q := 125) X dX9_merge_124 rfl rfl ?_
      refine A_iload_n (q := 126) X dX9_merge_125 rfl rfl ?_
      refine A_iconst (q := 127) X dX9_merge_126 rfl ?_
      refine A_iadd (q := 128) X dX9_merge_127 rfl ?_
      rw [show zI ((((p + 1) : Nat) : Int) + 1) = zI ((p + 2 : Nat) : Int) from congrArg zI (by omega)]
      refine A_iload (q := 130) X dX9_merge_128 rfl rfl ?_
      refine A_V2v (q := 133) X (c_X9_addPart (wl := wl) (i := ((p + 2))) (j := ((bh wl ((p + 2)) 1))) hG hN hA_9 (hWw.keep (((hf_10 69 (by omega) (by omega)).trans rfl))) (by omega) (by omega)) mX9_addPart kX9_169 dX9_merge_130 (by omega) (hA_9).choose_spec.1 rfl (by decide) (Nat.le_of_ble_eq_true rfl) rfl (fun cq_15 hq_14 => ?_)
      obtain ⟨hA_16, hf_17⟩ := hq_14
      refine A_iload (q := 135) X dX9_merge_133 rfl rfl ?_
      refine A_istore (q := 137) X dX9_merge_135 (by decide) (okP_s rfl rfl) rfl ?_
      exact AW.loc (sS rfl (sS rfl (sN (sS rfl (sS rfl (sN (sN (sN (sS rfl (sN (sN (sS (by rw [bh_0]; rfl) (sN sE))))))))))))) (lp1_X9_merge X hG hN hXG hp h0 h1 hWw _ 0 _ (Nat.lt_succ_self _) (Nat.zero_le _) (AX_eq hA_16 (by show _ = (x ++ (clo ((kn (wl.getD (p + 1) 0)) + (kn (wl.getD p 0)) - (min (kh (wl.getD (p + 1) 0)) (kn (wl.getD p 0)))) ((kh (wl.getD (p + 1) 0)) - (min (kh (wl.getD (p + 1) 0)) (kn (wl.getD p 0))) + (kh (wl.getD p 0))) :: sl wl (p + 2) (bh wl (p + 2) 1))) ++ []; simp only [List.append_assoc, List.cons_append, List.nil_append, List.append_nil])) (fun k n0 n1 => ((hf_17 k (by omega) (by omega)).trans ((hf_10 k (by omega) (by omega)).trans rfl))))
    · exfalso
      omega
  · refine A_iload (q := 65) X dX9_merge_63 rfl rfl ?_
    refine A_iload (q := 67) X dX9_merge_65 rfl rfl ?_
    refine A_iadd (q := 68) X dX9_merge_67 rfl ?_
    refine A_iload (q := 70) X dX9_merge_68 rfl rfl ?_
    refine A_isub (q := 71) X dX9_merge_70 rfl ?_
    refine A_goto (q := 76) X dX9_merge_71 rfl ?_
    refine A_istore (q := 78) X dX9_merge_76 (by decide) (okP_s rfl rfl) rfl ?_
    refine A_aload_n (q := 79) X dX9_merge_78 rfl rfl ?_
    refine A_ldc (q := 81) (n := 1000000) X dX9_merge_79 nX9_63 (by decide) rfl ?_
    refine A_sipush (q := 84) X dX9_merge_81 (by decide) rfl ?_
    refine A_iload (q := 86) X dX9_merge_84 rfl rfl ?_
    refine A_imul (q := 87) X dX9_merge_86 rfl ?_
    refine A_iadd (q := 88) X dX9_merge_87 rfl ?_
    refine A_iload (q := 90) X dX9_merge_88 rfl rfl ?_
    refine A_iload (q := 92) X dX9_merge_90 rfl rfl ?_
    refine A_icmp_ge (q := 95) (t := 100) X dX9_merge_92 (by omega) (by omega) rfl rfl (fun hb92 => ?_) (fun hb92 => ?_)
    · exfalso
      omega
    · refine A_iload (q := 97) X dX9_merge_95 rfl rfl ?_
      refine A_goto (q := 108) X dX9_merge_97 rfl ?_
      refine A_iadd (q := 109) X dX9_merge_108 rfl ?_
      rw [show zI ((1000000 + (1000 * (((((kn (wl.getD (p + 1) 0)) : Nat) : Int) + (((kn (wl.getD p 0)) : Nat) : Int)) - (((kh (wl.getD (p + 1) 0)) : Nat) : Int)))) + (((kh (wl.getD p 0)) : Nat) : Int)) = zI (clo ((kn (wl.getD (p + 1) 0)) + (kn (wl.getD p 0)) - (min (kh (wl.getD (p + 1) 0)) (kn (wl.getD p 0)))) ((kh (wl.getD (p + 1) 0)) - (min (kh (wl.getD (p + 1) 0)) (kn (wl.getD p 0))) + (kh (wl.getD p 0)))) from congrArg zI (by unfold clo; omega)]
      refine A_V1v (q := 112) X (c_X9_add (t := (clo ((kn (wl.getD (p + 1) 0)) + (kn (wl.getD p 0)) - (min (kh (wl.getD (p + 1) 0)) (kn (wl.getD p 0)))) ((kh (wl.getD (p + 1) 0)) - (min (kh (wl.getD (p + 1) 0)) (kn (wl.getD p 0))) + (kh (wl.getD p 0))))) hG hN hA) mX9_add kX9_165 dX9_merge_109 (by omega) hA.choose_spec.1 rfl (by decide) (Nat.le_of_ble_eq_true rfl) rfl (fun cq_19 hq_18 => ?_)
      obtain ⟨hA_20, hf_21⟩ := hq_18
      refine A_aload_n (q := 113) X dX9_merge_112 rfl rfl ?_
      refine A_getf (q := 116) X fX9_50 dX9_merge_113 (by omega) hA_20.choose_spec.1 rfl rfl ?_
      refine A_iload_n (q := 117) X dX9_merge_116 rfl rfl ?_
      refine A_iconst (q := 118) X dX9_merge_117 rfl ?_
      refine A_iadd (q := 119) X dX9_merge_118 rfl ?_
      rw [show zI ((((p + 1) : Nat) : Int) + 1) = zI ((p + 2 : Nat) : Int) from congrArg zI (by omega)]
      refine A_S2i (q := 122) X (c_endW (p := ((p + 2))) hG hN (hWw.keep (((hf_21 69 (by omega) (by omega)).trans rfl))) hXG (by omega)) mX9_end kX9_76 dX9_merge_119 (by decide) (Nat.le_of_ble_eq_true rfl) rfl (fun vq_24 cq_23 hq_22 => ?_)
      obtain ⟨rfl, hq_22⟩ := hq_22
      obtain rfl := hq_22.symm
      refine A_istore (q := 124) X dX9_merge_122 (by decide) (okP_s rfl rfl) rfl ?_
      refine A_aload_n (q := 125) X dX9_merge_124 rfl rfl ?_
      refine A_iload_n (q := 126) X dX9_merge_125 rfl rfl ?_
      refine A_iconst (q := 127) X dX9_merge_126 rfl ?_
      refine A_iadd (q := 128) X dX9_merge_127 rfl ?_
      rw [show zI ((((p + 1) : Nat) : Int) + 1) = zI ((p + 2 : Nat) : Int) from congrArg zI (by omega)]
      refine A_iload (q := 130) X dX9_merge_128 rfl rfl ?_
      refine A_V2v (q := 133) X (c_X9_addPart (wl := wl) (i := ((p + 2))) (j := ((bh wl ((p + 2)) 1))) hG hN hA_20 (hWw.keep (((hf_21 69 (by omega) (by omega)).trans rfl))) (by omega) (by omega)) mX9_addPart kX9_169 dX9_merge_130 (by omega) (hA_20).choose_spec.1 rfl (by decide) (Nat.le_of_ble_eq_true rfl) rfl (fun cq_26 hq_25 => ?_)
      obtain ⟨hA_27, hf_28⟩ := hq_25
      refine A_iload (q := 135) X dX9_merge_133 rfl rfl ?_
      refine A_istore (q := 137) X dX9_merge_135 (by decide) (okP_s rfl rfl) rfl ?_
      exact AW.loc (sS rfl (sS rfl (sN (sS rfl (sS rfl (sN (sN (sN (sS rfl (sN (sN (sS (by rw [bh_0]; rfl) (sN sE))))))))))))) (lp1_X9_merge X hG hN hXG hp h0 h1 hWw _ 0 _ (Nat.lt_succ_self _) (Nat.zero_le _) (AX_eq hA_27 (by show _ = (x ++ (clo ((kn (wl.getD (p + 1) 0)) + (kn (wl.getD p 0)) - (min (kh (wl.getD (p + 1) 0)) (kn (wl.getD p 0)))) ((kh (wl.getD (p + 1) 0)) - (min (kh (wl.getD (p + 1) 0)) (kn (wl.getD p 0))) + (kh (wl.getD p 0))) :: sl wl (p + 2) (bh wl (p + 2) 1))) ++ []; simp only [List.append_assoc, List.cons_append, List.nil_append, List.append_nil])) (fun k n0 n1 => ((hf_28 k (by omega) (by omega)).trans ((hf_21 k (by omega) (by omega)).trans rfl))))
