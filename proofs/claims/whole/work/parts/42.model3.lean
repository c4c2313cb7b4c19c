/-! THE MODEL, third: depths -/
abbrev ob9 (G : Gm) (th ts rm ob : Int) (sd : Int64) (tw pk : Int) : va_E := .inr (9, [.int (zI th), .ref (G.1 56), .int (zI ts), .ref (G.1 57), .ref (G.1 58), .ref (G.1 59), .ref (G.1 60), .ref (G.1 61), .int (zI rm), .ref (G.1 62), .ref (G.1 63), .int (zI ob), .ref (G.1 64), .ref (G.1 65), .long sd, .ref (G.1 66), .ref (G.1 67), .ref (G.1 68), .ref (G.1 69), .ref (G.1 70), .int (zI tw), .ref (G.1 71), .int (zI pk)])
/-- open subterms, the innermost first: what is still to come of each, and whether it binds -/
def dsm : List (Nat × Nat) → Nat
  | [] => 0
  | q :: fs => q.2 + dsm fs
def rst : List (Nat × Nat) → List Nat
  | [] => []
  | q :: fs => List.replicate (q.1 - 1) (q.2 + dsm fs) ++ rst fs
def Fr (O B : Nat → Int) : List (Nat × Nat) → Prop
  | [] => True
  | q :: fs => O fs.length = (q.1 : Nat) ∧ B fs.length = (q.2 : Nat) ∧ (1 ≤ q.1 ∧ q.1 ≤ 2) ∧ q.2 ≤ 1 ∧ Fr O B fs
theorem Fr_up {O B : Nat → Int} {k : Nat} {v : Int} : ∀ {fs : List (Nat × Nat)}, Fr O B fs → fs.length ≤ k → Fr (va_up O k v) B fs
  | [], _, _ => trivial
  | q :: fs, h, hk => by
    simp only [List.length_cons] at hk
    exact ⟨lk_ne (by omega) h.1, h.2.1, h.2.2.1, h.2.2.2.1, Fr_up h.2.2.2.2 (by omega)⟩
theorem Fr_upB {O B : Nat → Int} {k : Nat} {v : Int} : ∀ {fs : List (Nat × Nat)}, Fr O B fs → fs.length ≤ k → Fr O (va_up B k v) fs
  | [], _, _ => trivial
  | q :: fs, h, hk => by
    simp only [List.length_cons] at hk
    exact ⟨h.1, lk_ne (by omega) h.2.1, h.2.2.1, h.2.2.2.1, Fr_upB h.2.2.2.2 (by omega)⟩
theorem dsm_le {O B : Nat → Int} : ∀ {fs : List (Nat × Nat)}, Fr O B fs → dsm fs ≤ fs.length
  | [], _ => Nat.le_refl 0
  | q :: fs, h => by
    have := dsm_le h.2.2.2.2
    have := h.2.2.2.1
    show q.2 + dsm fs ≤ fs.length + 1
    omega
theorem rst_step {r b : Nat} {fs : List (Nat × Nat)} (h : 2 ≤ r) : rst ((r, b) :: fs) = dsm ((r - 1, b) :: fs) :: rst ((r - 1, b) :: fs) := by
  obtain ⟨m, rfl⟩ : ∃ m, r = m + 2 := ⟨r - 2, by omega⟩
  rfl
theorem rst_one {b : Nat} {fs : List (Nat × Nat)} : rst ((1, b) :: fs) = rst fs := rfl
set_option maxRecDepth 100000 in
set_option maxHeartbeats 4000000 in
theorem lp_close {l : Launch} {G : Gm} {K : Cx} {c0 : HP} {a fm to p M0 : Nat} {Rr : List Nat} {Q : Option Value → HP → Prop} {th ts rmb obn tw pk : Int} {sd : Int64} (X : Fx l G K cX9_layDepths 8 RX9 (none) (rmR 1 20)) (hG : injG G) (hN : G.2.1 = 72) (h055 : c0 55 = ob9 G th ts rmb obn sd tw pk) (kk : ∀ (fs : List (Nat × Nat)) (O B : Nat → Int) (c2 : HP), ((fs = [] ∧ Rr = []) ∨ Rr = dsm fs :: rst fs) → Fr O B fs → fs.length ≤ 200 → fs.length ≤ M0 → c2 67 = aI G 201 O → c2 68 = aZ G 201 B → (∀ k, k ≠ 67 → c2 k = c0 k) → AW G K Q 188 (mkL [some (.ref (G.1 55)), some (.ref (G.1 a)), some (.int (zI ((fm : Nat) : Int))), some (.int (zI ((to : Nat) : Int))), some (.int (zI ((fs.length : Nat) : Int))), some (.int (zI (((dsm fs) : Nat) : Int))), some (.int (zI ((p : Nat) : Int))), none]) [] c2) : ∀ (n : Nat) (r : Nat) (b : Nat) (gs : List (Nat × Nat)) (O : Nat → Int) (B : Nat → Int) (c : HP), gs.length < n → rst ((r, b) :: gs) = Rr → Fr O B ((r, b) :: gs) → ((r, b) :: gs).length ≤ 200 → ((r, b) :: gs).length ≤ M0 → c 67 = aI G 201 O → c 68 = aZ G 201 B → (∀ k, k ≠ 67 → c k = c0 k) → AW G K (Q) 108 (mkL [some (.ref (G.1 55)), some (.ref (G.1 a)), some (.int (zI ((fm : Nat) : Int))), some (.int (zI ((to : Nat) : Int))), some (.int (zI ((((r, b) :: gs : List (Nat × Nat)).length : Nat) : Int))), some (.int (zI (((dsm ((r, b) :: gs)) : Nat) : Int))), some (.int (zI ((p : Nat) : Int))), some (.int (zI 1))]) [] c := by
  intro n
  induction n with
  | zero => intro r b gs O B c hmz; exact absurd hmz (Nat.not_lt_zero _)
  | succ n ih =>
    intro r b gs O B c hmz hR hFr hlen hM h67 h68 hf0
    obtain ⟨hO, hBt, hr12, hb1, hFg⟩ := hFr
    dsimp only at hO hBt hr12 hb1
    have h55 := (hf0 55 (by decide)).trans h055
    have hgl : ((r, b) :: gs).length = gs.length + 1 := rfl
    have hdd : dsm ((r, b) :: gs) = b + dsm gs := rfl
    have hdl := dsm_le hFg
    rw [hgl, hdd]
    refine A_iload (q := 110) X dX9_layDepths_108 rfl rfl ?_
    refine A_if_eq (q := 113) (t := 188) X dX9_layDepths_110 (by decide) rfl rfl (fun hb110 => ?_) (fun hb110 => ?_)
    · exact absurd hb110 (by decide)
    · refine A_aload_n (q := 114) X dX9_layDepths_113 rfl rfl ?_
      refine A_getf (q := 117) X fX9_44 dX9_layDepths_114 (by omega) h55 rfl rfl ?_
      refine A_iload (q := 119) X dX9_layDepths_117 rfl rfl ?_
      refine A_iconst (q := 120) X dX9_layDepths_119 rfl ?_
      refine A_isub (q := 121) X dX9_layDepths_120 rfl ?_
      rw [show zI ((((gs.length + 1) : Nat) : Int) - 1) = zI ((gs.length : Nat) : Int) from congrArg zI (by omega)]
      refine A_dup2 (q := 122) X dX9_layDepths_121 rfl rfl rfl ?_
      refine A_iald (q := 123) (h := 67) (gs.length) X dX9_layDepths_122 (by omega) h67 (by omega) (by omega) (by decide) rfl ?_
      rw [hO]
      refine A_iconst (q := 124) X dX9_layDepths_123 rfl ?_
      refine A_isub (q := 125) X dX9_layDepths_124 rfl ?_
      refine A_iast (q := 126) (h := 67) (gs.length) X dX9_layDepths_125 (by omega) h67 (by omega) (by omega) (by decide) rfl ?_
      refine A_aload_n (q := 127) X dX9_layDepths_126 rfl rfl ?_
      refine A_getf (q := 130) X fX9_44 dX9_layDepths_127 (by omega) (lk_ne (by omega) h55) rfl rfl ?_
      refine A_iload (q := 132) X dX9_layDepths_130 rfl rfl ?_
      refine A_iconst (q := 133) X dX9_layDepths_132 rfl ?_
      refine A_isub (q := 134) X dX9_layDepths_133 rfl ?_
      rw [show zI ((((gs.length + 1) : Nat) : Int) - 1) = zI ((gs.length : Nat) : Int) from congrArg zI (by omega)]
      refine A_iald (q := 135) (h := 67) (gs.length) X dX9_layDepths_134 (by omega) lk_eq (by omega) (by omega) (by decide) rfl ?_
      rw [show va_up O gs.length (((r : Nat) : Int) - 1) gs.length = ((r : Nat) : Int) - 1 from lk_eq]
      refine A_if_ne (q := 138) (t := 142) X dX9_layDepths_135 (by omega) rfl rfl (fun hb135 => ?_) (fun hb135 => ?_)
      · refine A_iconst (q := 143) X dX9_layDepths_142 rfl ?_
        refine A_istore (q := 145) X dX9_layDepths_143 (by decide) (okP_s rfl rfl) rfl ?_
        refine A_iload (q := 147) X dX9_layDepths_145 rfl rfl ?_
        refine A_if_eq (q := 150) (t := 108) X dX9_layDepths_147 (by decide) rfl rfl (fun hb147 => ?_) (fun hb147 => ?_)
        · refine A_iload (q := 110) X dX9_layDepths_108 rfl rfl ?_
          refine A_if_eq (q := 113) (t := 188) X dX9_layDepths_110 (by decide) rfl rfl (fun hb110 => ?_) (fun hb110 => ?_)
          · exact AW.loc (sS rfl (sS rfl (sS rfl (sS rfl (sS rfl (sS rfl (sS rfl (sN sE)))))))) (kk ((r - 1, b) :: gs) (va_up O gs.length (((r : Nat) : Int) - 1)) B _ (Or.inr (by rw [← hR]; exact rst_step (by omega))) ⟨lk_eq.trans (by show _ = (((r - 1 : Nat)) : Int); omega), hBt, ⟨by show 1 ≤ r - 1; omega, by show r - 1 ≤ 2; omega⟩, hb1, Fr_up hFg (Nat.le_refl _)⟩ hlen hM lk_eq (lk_ne (by decide) h68) (fun k n0 => lk_ne n0 (hf0 k n0)))
          · exact absurd hb110 (by decide)
        · exact absurd hb147 (by decide)
      · refine A_iconst (q := 139) X dX9_layDepths_138 rfl ?_
        refine A_goto (q := 143) X dX9_layDepths_139 rfl ?_
        refine A_istore (q := 145) X dX9_layDepths_143 (by decide) (okP_s rfl rfl) rfl ?_
        refine A_iload (q := 147) X dX9_layDepths_145 rfl rfl ?_
        refine A_if_eq (q := 150) (t := 108) X dX9_layDepths_147 (by decide) rfl rfl (fun hb147 => ?_) (fun hb147 => ?_)
        · exact absurd hb147 (by decide)
        · have hr1 : r = 1 := by omega
          subst hr1
          rw [rst_one] at hR
          refine A_iinc (q := 153) X dX9_layDepths_150 rfl (by decide) (okP_s rfl rfl) rfl ?_
          refine A_iload (q := 155) X dX9_layDepths_153 rfl rfl ?_
          refine A_aload_n (q := 156) X dX9_layDepths_155 rfl rfl ?_
          refine A_getf (q := 159) X fX9_47 dX9_layDepths_156 (by omega) (lk_ne (by omega) h55) rfl rfl ?_
          refine A_iload (q := 161) X dX9_layDepths_159 rfl rfl ?_
          rw [show zI ((((gs.length + 1) : Nat) : Int) + (-1 : Int)) = zI ((gs.length : Nat) : Int) from congrArg zI (by omega)]
          refine A_zald (q := 162) (h := 68) (gs.length) X dX9_layDepths_161 (by omega) (lk_ne (by omega) h68) (by omega) (by omega) (by decide) rfl ?_
          rw [hBt]
          refine A_if_eq (q := 165) (t := 169) X dX9_layDepths_162 (by omega) rfl rfl (fun hb162 => ?_) (fun hb162 => ?_)
          · refine A_iconst (q := 170) X dX9_layDepths_169 rfl ?_
            refine A_isub (q := 171) X dX9_layDepths_170 rfl ?_
            refine A_istore (q := 173) X dX9_layDepths_171 (by decide) (okP_s rfl rfl) rfl ?_
            refine A_iload (q := 175) X dX9_layDepths_173 rfl rfl ?_
            refine A_if_le (q := 178) (t := 182) X dX9_layDepths_175 (by omega) rfl rfl (fun hb175 => ?_) (fun hb175 => ?_)
            · refine A_iconst (q := 183) X dX9_layDepths_182 rfl ?_
              refine A_istore (q := 185) X dX9_layDepths_183 (by decide) (okP_s rfl rfl) rfl ?_
              refine A_goto (q := 108) X dX9_layDepths_185 rfl ?_
              refine A_iload (q := 110) X dX9_layDepths_108 rfl rfl ?_
              refine A_if_eq (q := 113) (t := 188) X dX9_layDepths_110 (by decide) rfl rfl (fun hb110 => ?_) (fun hb110 => ?_)
              · have eg : gs = [] := List.length_eq_zero_iff.mp (by omega)
                subst eg
                have hR : Rr = [] := hR.symm
                exact AW.loc (sS rfl (sS rfl (sS rfl (sS rfl (sZ rfl (by omega) (sZ rfl (by show _ = (((0 : Nat)) : Int); omega) (sS rfl (sN sE)))))))) (kk [] (va_up O 0 (((1 : Nat) : Int) - 1)) B _ (Or.inl ⟨rfl, hR⟩) trivial (by decide) (Nat.zero_le _) lk_eq (lk_ne (by decide) h68) (fun k n0 => lk_ne n0 (hf0 k n0)))
              · exact absurd hb110 (by decide)
            · refine A_iconst (q := 179) X dX9_layDepths_178 rfl ?_
              refine A_goto (q := 183) X dX9_layDepths_179 rfl ?_
              refine A_istore (q := 185) X dX9_layDepths_183 (by decide) (okP_s rfl rfl) rfl ?_
              refine A_goto (q := 108) X dX9_layDepths_185 rfl ?_
              obtain ⟨r2, b2, g2, rfl⟩ : ∃ r2 b2 g2, gs = (r2, b2) :: g2 := by cases gs with | nil => exact absurd (by decide) hb175 | cons q g2 => exact ⟨q.1, q.2, g2, rfl⟩
              exact AW.loc (sS rfl (sS rfl (sS rfl (sS rfl (sZ rfl rfl (sZ rfl (by show _ = ((dsm ((r2, b2) :: g2) : Nat) : Int); omega) (sS rfl (sS rfl sE)))))))) (ih r2 b2 g2 _ B _ (by simp only [List.length_cons] at hmz; omega) hR (Fr_up hFg (by simp only [List.length_cons]; omega)) (by simp only [List.length_cons] at hlen ⊢; omega) (by simp only [List.length_cons] at hM ⊢; omega) lk_eq (lk_ne (by decide) h68) (fun k n0 => lk_ne n0 (hf0 k n0)))
          · refine A_iconst (q := 166) X dX9_layDepths_165 rfl ?_
            refine A_goto (q := 170) X dX9_layDepths_166 rfl ?_
            refine A_isub (q := 171) X dX9_layDepths_170 rfl ?_
            refine A_istore (q := 173) X dX9_layDepths_171 (by decide) (okP_s rfl rfl) rfl ?_
            refine A_iload (q := 175) X dX9_layDepths_173 rfl rfl ?_
            refine A_if_le (q := 178) (t := 182) X dX9_layDepths_175 (by omega) rfl rfl (fun hb175 => ?_) (fun hb175 => ?_)
            · refine A_iconst (q := 183) X dX9_layDepths_182 rfl ?_
              refine A_istore (q := 185) X dX9_layDepths_183 (by decide) (okP_s rfl rfl) rfl ?_
              refine A_goto (q := 108) X dX9_layDepths_185 rfl ?_
              refine A_iload (q := 110) X dX9_layDepths_108 rfl rfl ?_
              refine A_if_eq (q := 113) (t := 188) X dX9_layDepths_110 (by decide) rfl rfl (fun hb110 => ?_) (fun hb110 => ?_)
              · have eg : gs = [] := List.length_eq_zero_iff.mp (by omega)
                subst eg
                have hR : Rr = [] := hR.symm
                exact AW.loc (sS rfl (sS rfl (sS rfl (sS rfl (sZ rfl (by omega) (sZ rfl (by show _ = (((0 : Nat)) : Int); omega) (sS rfl (sN sE)))))))) (kk [] (va_up O 0 (((1 : Nat) : Int) - 1)) B _ (Or.inl ⟨rfl, hR⟩) trivial (by decide) (Nat.zero_le _) lk_eq (lk_ne (by decide) h68) (fun k n0 => lk_ne n0 (hf0 k n0)))
              · exact absurd hb110 (by decide)
            · refine A_iconst (q := 179) X dX9_layDepths_178 rfl ?_
              refine A_goto (q := 183) X dX9_layDepths_179 rfl ?_
              refine A_istore (q := 185) X dX9_layDepths_183 (by decide) (okP_s rfl rfl) rfl ?_
              refine A_goto (q := 108) X dX9_layDepths_185 rfl ?_
              obtain ⟨r2, b2, g2, rfl⟩ : ∃ r2 b2 g2, gs = (r2, b2) :: g2 := by cases gs with | nil => exact absurd (by decide) hb175 | cons q g2 => exact ⟨q.1, q.2, g2, rfl⟩
              exact AW.loc (sS rfl (sS rfl (sS rfl (sS rfl (sZ rfl rfl (sZ rfl (by show _ = ((dsm ((r2, b2) :: g2) : Nat) : Int); omega) (sS rfl (sS rfl sE)))))))) (ih r2 b2 g2 _ B _ (by simp only [List.length_cons] at hmz; omega) hR (Fr_up hFg (by simp only [List.length_cons]; omega)) (by simp only [List.length_cons] at hlen ⊢; omega) (by simp only [List.length_cons] at hM ⊢; omega) lk_eq (lk_ne (by decide) h68) (fun k n0 => lk_ne n0 (hf0 k n0)))
theorem psh_app (fs : List (Nat × Nat)) : nd 1000 (dsm fs) ++ rst fs = dsm ((2, 0) :: fs) :: rst ((2, 0) :: fs) := by
  show [dsm fs, dsm fs] ++ rst fs = (0 + dsm fs) :: (List.replicate 1 (0 + dsm fs) ++ rst fs)
  rw [Nat.zero_add]
  rfl
theorem psh_abs (fs : List (Nat × Nat)) : nd 1001 (dsm fs) ++ rst fs = dsm ((1, 1) :: fs) :: rst ((1, 1) :: fs) := by
  show (dsm fs + 1) :: rst fs = (1 + dsm fs) :: rst fs
  rw [Nat.add_comm]
theorem nd_var {t : Int} (h : t < 1000) (d : Nat) : nd t d = [] := by
  unfold nd
  rw [if_neg (by omega), if_neg (by omega)]
set_option maxRecDepth 100000 in
set_option maxHeartbeats 4000000 in
theorem lp_X9_layDepths {l : Launch} {G : Gm} {K : Cx} {c0 : HP} {a fm c1 : Nat} {x : List Int} {F D0 : Nat → Int} {th ts rmb obn tw pk : Int} {sd : Int64} (X : Fx l G K cX9_layDepths 8 RX9 (none) (rmR 1 20)) (hG : injG G) (hN : G.2.1 = 72) (h055 : c0 55 = ob9 G th ts rmb obn sd tw pk) (ha0 : a < G.2.1) (an : a ≠ 66 ∧ a ≠ 67 ∧ a ≠ 68) (haF : c0 a = aI G 201 F) (hx1 : One x c1) (hx0 : ∀ t ∈ x, 0 ≤ t ∧ t ≤ 1001) (hto : fm + x.length ≤ 200) (hxF : ∀ i, i < x.length → F (fm + i) = x.getD i 0) : ∀ (n : Nat) (i : Nat) (fs : List (Nat × Nat)) (O : Nat → Int) (B : Nat → Int) (D : Nat → Int) (c : HP), x.length - i < n → i ≤ x.length → (i < x.length → stk (x.take i) [0] = dsm fs :: rst fs) → Fr O B fs → fs.length ≤ i → c 66 = aI G 201 D → c 67 = aI G 201 O → c 68 = aZ G 201 B → (∀ j, j < i → D (fm + j) = ((dp x j : Nat) : Int)) → (∀ k, k < fm ∨ fm + x.length ≤ k → D k = D0 k) → (∀ k, k ≠ 66 → k ≠ 67 → k ≠ 68 → c k = c0 k) → AW G K (Qv (fun c' => (∃ D' : Nat → Int, c' 66 = aI G 201 D' ∧ (∀ j, j < x.length → D' (fm + j) = ((dp x j : Nat) : Int)) ∧ (∀ k, k < fm ∨ fm + x.length ≤ k → D' k = D0 k)) ∧ (∃ O', c' 67 = aI G 201 O') ∧ (∃ B', c' 68 = aZ G 201 B') ∧ (∀ k, k ≠ 66 → k ≠ 67 → k ≠ 68 → c' k = c0 k))) 9 (mkL [some (.ref (G.1 55)), some (.ref (G.1 a)), some (.int (zI ((fm : Nat) : Int))), some (.int (zI (((fm + x.length) : Nat) : Int))), some (.int (zI ((fs.length : Nat) : Int))), some (.int (zI (((dsm fs) : Nat) : Int))), some (.int (zI (((fm + i) : Nat) : Int))), none]) [] c := by
  intro n
  induction n with
  | zero => intro i fs O B D c hmz; exact absurd hmz (Nat.not_lt_zero _)
  | succ n ih =>
    intro i fs O B D c hmz hi hst hFr hfl h66 h67 h68 hD hD0 hf0
    have h55 := (hf0 55 (by decide) (by decide) (by decide)).trans h055
    have ha := (hf0 a an.1 an.2.1 an.2.2).trans haF
    refine A_iload (q := 11) X dX9_layDepths_9 rfl rfl ?_
    refine A_iload_n (q := 12) X dX9_layDepths_11 rfl rfl ?_
    refine A_icmp_ge (q := 15) (t := 194) X dX9_layDepths_12 (by omega) (by omega) rfl rfl (fun hb12 => ?_) (fun hb12 => ?_)
    · exact A_return X dX9_layDepths_194 ⟨⟨D, h66, fun j hj => hD j (by omega), hD0⟩, ⟨O, h67⟩, ⟨B, h68⟩, hf0⟩
    · have hil : i < x.length := by omega
      have hs1 := hst hil
      have hdp := dp_stk hil hs1
      have htk := stk_take hil hs1
      have htb := hx0 _ (mem_getD hil)
      have hFt := hxF i hil
      generalize x.getD i 0 = t at htk htb hFt
      have hdl := dsm_le hFr
      refine A_aload_n (q := 16) X dX9_layDepths_15 rfl rfl ?_
      refine A_getf (q := 19) X fX9_41 dX9_layDepths_16 (by omega) h55 rfl rfl ?_
      refine A_iload (q := 21) X dX9_layDepths_19 rfl rfl ?_
      refine A_iload (q := 23) X dX9_layDepths_21 rfl rfl ?_
      refine A_iast (q := 24) (h := 66) ((fm + i)) X dX9_layDepths_23 (by omega) h66 (by omega) (by omega) (by decide) rfl ?_
      refine A_aload_n (q := 25) X dX9_layDepths_24 rfl rfl ?_
      refine A_iload (q := 27) X dX9_layDepths_25 rfl rfl ?_
      refine A_iald (q := 28) (h := a) ((fm + i)) X dX9_layDepths_27 ha0 (lk_ne (by omega) ha) (by omega) (by omega) (by decide) rfl ?_
      rw [hFt]
      refine A_S1i (q := 31) X (c_X9_isVariable hG (by omega)) mX9_isVariable kX9_68 dX9_layDepths_28 (by decide) (Nat.le_of_ble_eq_true rfl) rfl (fun vq_3 cq_2 hq_1 => ?_)
      obtain ⟨rfl, hq_1⟩ := hq_1
      obtain rfl := hq_1.symm
      refine A_bne (q := 34) (t := 96) X dX9_layDepths_31 rfl rfl (fun hb31 => ?_) (fun hb31 => ?_)
      · refine A_iload (q := 98) X dX9_layDepths_96 rfl rfl ?_
        refine A_if_le (q := 101) (t := 105) X dX9_layDepths_98 (by omega) rfl rfl (fun hb98 => ?_) (fun hb98 => ?_)
        · refine A_iconst (q := 106) X dX9_layDepths_105 rfl ?_
          refine A_istore (q := 108) X dX9_layDepths_106 (by decide) (okP_s rfl rfl) rfl ?_
          refine A_iload (q := 110) X dX9_layDepths_108 rfl rfl ?_
          refine A_if_eq (q := 113) (t := 188) X dX9_layDepths_110 (by decide) rfl rfl (fun hb110 => ?_) (fun hb110 => ?_)
          · refine A_iinc (q := 191) X dX9_layDepths_188 rfl (by decide) (okP_s rfl rfl) rfl ?_
            refine A_goto (q := 9) X dX9_layDepths_191 rfl ?_
            have ef : fs = [] := List.length_eq_zero_iff.mp (by omega)
            subst ef
            exact AW.loc (sS rfl (sS rfl (sS rfl (sS rfl (sZ rfl rfl (sZ rfl rfl (sZ rfl (by omega) (sN sE)))))))) (ih (i + 1) [] O B (va_up D (fm + i) ((dsm [] : Nat) : Int)) _ (by omega) (by omega) (fun h => by obtain ⟨ds, e2⟩ := hx1.top h; rw [htk, nd_var (by omega)] at e2; cases e2) trivial (Nat.zero_le _) (lk_eq) ((lk_ne (by omega) h67)) ((lk_ne (by omega) h68)) (fun j hj => by by_cases e : j = i; (subst e; rw [hdp]; exact lk_eq); exact lk_ne (by omega) (hD j (by omega))) (fun k hk => lk_ne (by omega) (hD0 k hk)) (fun k n0 n1 n2 => (lk_ne (by omega) (hf0 k n0 n1 n2))))
          · exact absurd hb110 (by decide)
        · refine A_iconst (q := 102) X dX9_layDepths_101 rfl ?_
          refine A_goto (q := 106) X dX9_layDepths_102 rfl ?_
          refine A_istore (q := 108) X dX9_layDepths_106 (by decide) (okP_s rfl rfl) rfl ?_
          obtain ⟨r, b, gs, rfl⟩ : ∃ r b gs, fs = (r, b) :: gs := by cases fs with | nil => exact absurd (by decide) hb98 | cons q g => exact ⟨q.1, q.2, g, rfl⟩
          refine AW.loc (sS rfl (sS rfl (sS rfl (sS rfl (sS rfl (sS rfl (sS rfl (sS rfl sE)))))))) (lp_close (c0 := va_up c 66 (aI G 201 (va_up D (fm + i) ((dsm ((r, b) :: gs) : Nat) : Int)))) (Rr := rst ((r, b) :: gs)) (M0 := ((r, b) :: gs).length) (p := fm + i) (to := fm + x.length) X hG hN (by exact (lk_ne (by omega) h55)) (fun fs2 O2 B2 c2 hR2 hFr2 hl2 hM2 h267 h268 hf2 => ?_) _ r b gs O B _ (Nat.lt_succ_self _) rfl hFr (by omega) (Nat.le_refl _) ((lk_ne (by omega) h67)) ((lk_ne (by omega) h68)) (fun _ _ => rfl))
          have hdl2 := dsm_le hFr2
          refine A_iinc (q := 191) X dX9_layDepths_188 rfl (by decide) (okP_s rfl rfl) rfl ?_
          refine A_goto (q := 9) X dX9_layDepths_191 rfl ?_
          exact AW.loc (sS rfl (sS rfl (sS rfl (sS rfl (sZ rfl rfl (sZ rfl rfl (sZ rfl (by omega) (sN sE)))))))) (ih (i + 1) fs2 O2 B2 (va_up D (fm + i) ((dsm ((r, b) :: gs) : Nat) : Int)) _ (by omega) (by omega) (fun h => by rcases hR2 with ⟨-, e⟩ | e; (obtain ⟨ds, e2⟩ := hx1.top h; rw [htk, nd_var (by omega), e] at e2; cases e2); rw [htk, nd_var (by omega)]; exact e) hFr2 (by omega) (((hf2 _ (by omega)).trans lk_eq)) (h267) (h268) (fun j hj => by by_cases e : j = i; (subst e; rw [hdp]; exact lk_eq); exact lk_ne (by omega) (hD j (by omega))) (fun k hk => lk_ne (by omega) (hD0 k hk)) (fun k n0 n1 n2 => ((hf2 k (by omega)).trans (lk_ne (by omega) (hf0 k n0 n1 n2)))))
      · refine A_aload_n (q := 35) X dX9_layDepths_34 rfl rfl ?_
        refine A_getf (q := 38) X fX9_44 dX9_layDepths_35 (by omega) (lk_ne (by omega) h55) rfl rfl ?_
        refine A_iload (q := 40) X dX9_layDepths_38 rfl rfl ?_
        refine A_aload_n (q := 41) X dX9_layDepths_40 rfl rfl ?_
        refine A_iload (q := 43) X dX9_layDepths_41 rfl rfl ?_
        refine A_iald (q := 44) (h := a) ((fm + i)) X dX9_layDepths_43 ha0 (lk_ne (by omega) ha) (by omega) (by omega) (by decide) rfl ?_
        rw [hFt]
        refine A_S1i (q := 47) X (c_X9_parts hG (by omega) (by omega)) mX9_parts kX9_64 dX9_layDepths_44 (by decide) (Nat.le_of_ble_eq_true rfl) rfl (fun vq_6 cq_5 hq_4 => ?_)
        obtain ⟨rfl, hq_4⟩ := hq_4
        obtain rfl := hq_4.symm
        refine A_iast (q := 48) (h := 67) (fs.length) X dX9_layDepths_47 (by omega) (lk_ne (by omega) h67) (by omega) (by omega) (by decide) rfl ?_
        refine A_aload_n (q := 49) X dX9_layDepths_48 rfl rfl ?_
        refine A_getf (q := 52) X fX9_47 dX9_layDepths_49 (by omega) (lk_ne (by omega) (lk_ne (by omega) h55)) rfl rfl ?_
        refine A_iload (q := 54) X dX9_layDepths_52 rfl rfl ?_
        refine A_aload_n (q := 55) X dX9_layDepths_54 rfl rfl ?_
        refine A_iload (q := 57) X dX9_layDepths_55 rfl rfl ?_
        refine A_iald (q := 58) (h := a) ((fm + i)) X dX9_layDepths_57 ha0 (lk_ne (by omega) (lk_ne (by omega) ha)) (by omega) (by omega) (by decide) rfl ?_
        rw [hFt]
        refine A_sipush (q := 61) X dX9_layDepths_58 (by decide) rfl ?_
        refine A_icmp_ne (q := 64) (t := 68) X dX9_layDepths_61 (by omega) (by decide) rfl rfl (fun hb61 => ?_) (fun hb61 => ?_)
        · refine A_iconst (q := 69) X dX9_layDepths_68 rfl ?_
          refine A_zast (q := 70) (h := 68) (fs.length) X dX9_layDepths_69 (by omega) (lk_ne (by omega) (lk_ne (by omega) h68)) (by omega) (by omega) (by decide) (Or.inl rfl) rfl ?_
          refine A_iload (q := 72) X dX9_layDepths_70 rfl rfl ?_
          refine A_aload_n (q := 73) X dX9_layDepths_72 rfl rfl ?_
          refine A_getf (q := 76) X fX9_47 dX9_layDepths_73 (by omega) (lk_ne (by omega) (lk_ne (by omega) (lk_ne (by omega) h55))) rfl rfl ?_
          refine A_iload (q := 78) X dX9_layDepths_76 rfl rfl ?_
          refine A_zald (q := 79) (h := 68) (fs.length) X dX9_layDepths_78 (by omega) lk_eq (by omega) (by omega) (by decide) rfl ?_
          rw [show va_up B fs.length 0 fs.length = (0 : Int) from lk_eq]
          refine A_if_eq (q := 82) (t := 86) X dX9_layDepths_79 (by decide) rfl rfl (fun hb79 => ?_) (fun hb79 => ?_)
          · refine A_iconst (q := 87) X dX9_layDepths_86 rfl ?_
            refine A_iadd (q := 88) X dX9_layDepths_87 rfl ?_
            refine A_istore (q := 90) X dX9_layDepths_88 (by decide) (okP_s rfl rfl) rfl ?_
            refine A_iinc (q := 93) X dX9_layDepths_90 rfl (by decide) (okP_s rfl rfl) rfl ?_
            refine A_goto (q := 188) X dX9_layDepths_93 rfl ?_
            refine A_iinc (q := 191) X dX9_layDepths_188 rfl (by decide) (okP_s rfl rfl) rfl ?_
            refine A_goto (q := 9) X dX9_layDepths_191 rfl ?_
            have et : t = 1000 := by omega
            subst et
            exact AW.loc (sS rfl (sS rfl (sS rfl (sS rfl (sZ rfl (by show _ = (((fs.length + 1 : Nat)) : Int); omega) (sZ rfl (by show _ = (((0 + dsm fs : Nat)) : Int); omega) (sZ rfl (by omega) (sN sE)))))))) (ih (i + 1) ((2, 0) :: fs) _ _ (va_up D (fm + i) ((dsm fs : Nat) : Int)) _ (by omega) (by omega) (fun _ => htk.trans (psh_app fs)) ⟨lk_eq, lk_eq, by decide, by decide, Fr_upB (Fr_up hFr (Nat.le_refl _)) (Nat.le_refl _)⟩ (Nat.succ_le_succ hfl) ((lk_ne (by omega) (lk_ne (by omega) lk_eq))) ((lk_ne (by omega) lk_eq)) (lk_eq) (fun j hj => by by_cases e : j = i; (subst e; rw [hdp]; exact lk_eq); exact lk_ne (by omega) (hD j (by omega))) (fun k hk => lk_ne (by omega) (hD0 k hk)) (fun k n0 n1 n2 => (lk_ne (by omega) (lk_ne (by omega) (lk_ne (by omega) (hf0 k n0 n1 n2))))))
          · exact absurd hb79 (by decide)
        · refine A_iconst (q := 65) X dX9_layDepths_64 rfl ?_
          refine A_goto (q := 69) X dX9_layDepths_65 rfl ?_
          refine A_zast (q := 70) (h := 68) (fs.length) X dX9_layDepths_69 (by omega) (lk_ne (by omega) (lk_ne (by omega) h68)) (by omega) (by omega) (by decide) (Or.inr rfl) rfl ?_
          refine A_iload (q := 72) X dX9_layDepths_70 rfl rfl ?_
          refine A_aload_n (q := 73) X dX9_layDepths_72 rfl rfl ?_
          refine A_getf (q := 76) X fX9_47 dX9_layDepths_73 (by omega) (lk_ne (by omega) (lk_ne (by omega) (lk_ne (by omega) h55))) rfl rfl ?_
          refine A_iload (q := 78) X dX9_layDepths_76 rfl rfl ?_
          refine A_zald (q := 79) (h := 68) (fs.length) X dX9_layDepths_78 (by omega) lk_eq (by omega) (by omega) (by decide) rfl ?_
          rw [show va_up B fs.length 1 fs.length = (1 : Int) from lk_eq]
          refine A_if_eq (q := 82) (t := 86) X dX9_layDepths_79 (by decide) rfl rfl (fun hb79 => ?_) (fun hb79 => ?_)
          · exact absurd hb79 (by decide)
          · refine A_iconst (q := 83) X dX9_layDepths_82 rfl ?_
            refine A_goto (q := 87) X dX9_layDepths_83 rfl ?_
            refine A_iadd (q := 88) X dX9_layDepths_87 rfl ?_
            refine A_istore (q := 90) X dX9_layDepths_88 (by decide) (okP_s rfl rfl) rfl ?_
            refine A_iinc (q := 93) X dX9_layDepths_90 rfl (by decide) (okP_s rfl rfl) rfl ?_
            refine A_goto (q := 188) X dX9_layDepths_93 rfl ?_
            refine A_iinc (q := 191) X dX9_layDepths_188 rfl (by decide) (okP_s rfl rfl) rfl ?_
            refine A_goto (q := 9) X dX9_layDepths_191 rfl ?_
            have et : t = 1001 := by omega
            subst et
            exact AW.loc (sS rfl (sS rfl (sS rfl (sS rfl (sZ rfl (by show _ = (((fs.length + 1 : Nat)) : Int); omega) (sZ rfl (by show _ = (((1 + dsm fs : Nat)) : Int); omega) (sZ rfl (by omega) (sN sE)))))))) (ih (i + 1) ((1, 1) :: fs) _ _ (va_up D (fm + i) ((dsm fs : Nat) : Int)) _ (by omega) (by omega) (fun _ => htk.trans (psh_abs fs)) ⟨lk_eq, lk_eq, by decide, by decide, Fr_upB (Fr_up hFr (Nat.le_refl _)) (Nat.le_refl _)⟩ (Nat.succ_le_succ hfl) ((lk_ne (by omega) (lk_ne (by omega) lk_eq))) ((lk_ne (by omega) lk_eq)) (lk_eq) (fun j hj => by by_cases e : j = i; (subst e; rw [hdp]; exact lk_eq); exact lk_ne (by omega) (hD j (by omega))) (fun k hk => lk_ne (by omega) (hD0 k hk)) (fun k n0 n1 n2 => (lk_ne (by omega) (lk_ne (by omega) (lk_ne (by omega) (hf0 k n0 n1 n2))))))
set_option maxRecDepth 100000 in
set_option maxHeartbeats 4000000 in
theorem c_X9_layDepths {l : Launch} {G : Gm} {c : HP} {a fm c1 : Nat} {x : List Int} {F D O B : Nat → Int} {th ts rmb obn tw pk : Int} {sd : Int64} (hG : injG G) (hN : G.2.1 = 72) (h55 : c 55 = ob9 G th ts rmb obn sd tw pk) (ha0 : a < G.2.1) (an : a ≠ 66 ∧ a ≠ 67 ∧ a ≠ 68) (ha : c a = aI G 201 F) (hx1 : One x c1) (hx0 : ∀ t ∈ x, 0 ≤ t ∧ t ≤ 1001) (hto : fm + x.length ≤ 200) (hxF : ∀ i, i < x.length → F (fm + i) = x.getD i 0) (h66 : c 66 = aI G 201 D) (h67 : c 67 = aI G 201 O) (h68 : c 68 = aZ G 201 B) : AMet l G yX9_layDepths cX9_layDepths 8 (none) (rmR 1 20) [.ref (G.1 55), .ref (G.1 a), .int (zI ((fm : Nat) : Int)), .int (zI (((fm + x.length) : Nat) : Int))] c (Qv (fun c' => (∃ D' : Nat → Int, c' 66 = aI G 201 D' ∧ (∀ j, j < x.length → D' (fm + j) = ((dp x j : Nat) : Int)) ∧ (∀ k, k < fm ∨ fm + x.length ≤ k → D' k = D k)) ∧ (∃ O', c' 67 = aI G 201 O') ∧ (∃ B', c' 68 = aZ G 201 B') ∧ (∀ k, k ≠ 66 → k ≠ 67 → k ≠ 68 → c' k = c k))) := by
  refine AMet.of (vl := [some (.ref (G.1 55)), some (.ref (G.1 a)), some (.int (zI ((fm : Nat) : Int))), some (.int (zI (((fm + x.length) : Nat) : Int)))]) (by decide) hG (Nat.le_of_ble_eq_true rfl) rfl ?_
  intro K X
  have X : Fx l G K cX9_layDepths 8 RX9 (none) (rmR 1 20) := X
  refine A_iconst (q := 1) X dX9_layDepths_0 rfl ?_
  refine A_istore (q := 3) X dX9_layDepths_1 (by decide) (okP_s rfl rfl) rfl ?_
  refine A_iconst (q := 4) X dX9_layDepths_3 rfl ?_
  refine A_istore (q := 6) X dX9_layDepths_4 (by decide) (okP_s rfl rfl) rfl ?_
  refine A_iload_n (q := 7) X dX9_layDepths_6 rfl rfl ?_
  refine A_istore (q := 9) X dX9_layDepths_7 (by decide) (okP_s rfl rfl) rfl ?_
  exact AW.loc (sS rfl (sS rfl (sS rfl (sS rfl (sZ rfl rfl (sZ rfl rfl (sZ rfl rfl (sN sE)))))))) (lp_X9_layDepths X hG hN h55 ha0 an ha hx1 hx0 hto hxF _ 0 [] O B D c (Nat.lt_succ_self _) (Nat.zero_le _) (fun _ => rfl) trivial (Nat.le_refl _) h66 h67 h68 (fun j hj => absurd hj (Nat.not_lt_zero _)) (fun _ _ => rfl) (fun _ _ _ _ => rfl))
