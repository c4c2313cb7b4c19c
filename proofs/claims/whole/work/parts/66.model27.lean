/-! THE MODEL's machine at work -/
set_option maxRecDepth 100000 in
set_option maxHeartbeats 4000000 in
theorem lpE_X9_machine {l : Launch} {G : Gm} {K : Cx} {c0 : HP} {F7 : Nat → Int} {st : Nat} {Q : Option Value → HP → Prop} {tw : Int} {mg : Prop} {dm : Decidable mg} {th ts rmb obn pk : Int} {sd : Int64} (X : Fx l G K cX9_machine 6 RX9 ((some .boolean)) (rmR 4 107)) (hG : injG G) (hN : G.2.1 = 72) (h055 : c0 55 = ob9 G th ts rmb obn sd tw pk) (h070 : c0 70 = aI G 321 F7) (kk : ∀ (c2 : HP) (H : Nat → Int), c2 69 = aI G 321 H → (∀ k, k < 321 → H k = F7 k) → (∀ k, k ≠ 69 → c2 k = c0 k) → AW G K Q 205 (mkL [some (.ref (G.1 55)), some (.int (zI (if mg then 1 else 0 : Int))), some (.int (zI ((st : Nat) : Int))), none, none, none]) [] c2) : ∀ (n : Nat) (i : Nat) (H : Nat → Int) (c : HP), 321 - i < n → i ≤ 321 → c 69 = aI G 321 H → (∀ k, k < i → H k = F7 k) → (∀ k, k ≠ 69 → c k = c0 k) → AW G K (Q) 177 (mkL [some (.ref (G.1 55)), some (.int (zI (if mg then 1 else 0 : Int))), some (.int (zI ((st : Nat) : Int))), none, none, some (.int (zI ((i : Nat) : Int)))]) [] c := by
  intro n
  induction n with
  | zero => intro i H c hmz; exact absurd hmz (Nat.not_lt_zero _)
  | succ n ih =>
    intro i H c hmz hi h69 hH hf0
    have h55 := (hf0 55 (by decide)).trans h055
    have h70 := (hf0 70 (by decide)).trans h070
    refine A_iload (q := 179) X dX9_machine_177 rfl rfl ?_
    refine A_sipush (q := 182) X dX9_machine_179 (by decide) rfl ?_
    refine A_icmp_ge (q := 185) (t := 205) X dX9_machine_182 (by omega) (by decide) rfl rfl (fun hb182 => ?_) (fun hb182 => ?_)
    · exact AW.loc (sS rfl (sS rfl (sS rfl (sN (sN (sN sE)))))) (kk c H h69 (fun k hk => hH k (by omega)) hf0)
    · refine A_aload_n (q := 186) X dX9_machine_185 rfl rfl ?_
      refine A_getf (q := 189) X fX9_50 dX9_machine_186 (by omega) h55 rfl rfl ?_
      refine A_iload (q := 191) X dX9_machine_189 rfl rfl ?_
      refine A_aload_n (q := 192) X dX9_machine_191 rfl rfl ?_
      refine A_getf (q := 195) X fX9_53 dX9_machine_192 (by omega) h55 rfl rfl ?_
      refine A_iload (q := 197) X dX9_machine_195 rfl rfl ?_
      refine A_iald (q := 198) (h := 70) (i) X dX9_machine_197 (by omega) h70 (by omega) (by omega) (by decide) rfl ?_
      refine A_iast (q := 199) (h := 69) (i) X dX9_machine_198 (by omega) h69 (by omega) (by omega) (by decide) rfl ?_
      refine A_iinc (q := 202) X dX9_machine_199 rfl (by decide) (okP_n rfl) rfl ?_
      refine A_goto (q := 177) X dX9_machine_202 rfl ?_
      exact AW.loc (sS rfl (sS rfl (sS rfl (sN (sN (sZ rfl (by omega) sE)))))) (ih (i + 1) _ _ (by omega) (by omega) (lk_eq) (fun k hk => by by_cases e : k = i; (subst e; exact lk_eq); exact lk_ne e (hH k (by omega))) (fun k n0 => lk_ne n0 (hf0 k n0)))
set_option maxRecDepth 100000 in
set_option maxHeartbeats 4000000 in
theorem lpD_X9_machine {l : Launch} {G : Gm} {K : Cx} {c : HP} {wl : List Int} {st : Nat} {Q : Option Value → HP → Prop} {tw : Int} {mg : Prop} {dm : Decidable mg} {th ts rmb obn pk : Int} {sd : Int64} (X : Fx l G K cX9_machine 6 RX9 ((some .boolean)) (rmR 4 107)) (hG : injG G) (hN : G.2.1 = 72) (h55 : c 55 = ob9 G th ts rmb obn sd tw pk) (hWw : Ww G c wl) (hXG : XG wl) (kk : ∀ p : Nat, p ≤ wl.length → (∀ j, j < p → ¬ anyR wl mg j) → (p < wl.length → anyR wl mg p) → AW G K Q 125 (mkL [some (.ref (G.1 55)), some (.int (zI (if mg then 1 else 0 : Int))), some (.int (zI ((st : Nat) : Int))), some (.int (zI ((p : Nat) : Int))), none, none]) [] c) : ∀ (n : Nat) (i : Nat), wl.length - i < n → i ≤ wl.length → (∀ j, j < i → ¬ anyR wl mg j) → AW G K (Q) 96 (mkL [some (.ref (G.1 55)), some (.int (zI (if mg then 1 else 0 : Int))), some (.int (zI ((st : Nat) : Int))), some (.int (zI ((i : Nat) : Int))), none, none]) [] c := by
  intro n
  induction n with
  | zero => intro i hmz; exact absurd hmz (Nat.not_lt_zero _)
  | succ n ih =>
    intro i hmz hi hno
    obtain ⟨hwl, F, h69, hWS, hWF⟩ := (id hWw : Ww G c wl)
    refine A_iload_n (q := 97) X dX9_machine_96 rfl rfl ?_
    refine A_aload_n (q := 98) X dX9_machine_97 rfl rfl ?_
    refine A_getf (q := 101) X fX9_50 dX9_machine_98 (by omega) h55 rfl rfl ?_
    refine A_sipush (q := 104) X dX9_machine_101 (by decide) rfl ?_
    refine A_iald (q := 105) (h := 69) 320 X dX9_machine_104 (by omega) h69 (by omega) (by omega) (by decide) rfl ?_
    rw [hWS]
    refine A_icmp_ge (q := 108) (t := 125) X dX9_machine_105 (by omega) (by omega) rfl rfl (fun hb105 => ?_) (fun hb105 => ?_)
    · exact AW.loc (sS rfl (sS rfl (sS rfl (sS rfl (sN (sN sE)))))) (kk i hi hno (fun z => absurd z (by omega)))
    · refine A_aload_n (q := 109) X dX9_machine_108 rfl rfl ?_
      refine A_iload_n (q := 110) X dX9_machine_109 rfl rfl ?_
      refine A_iload_n (q := 111) X dX9_machine_110 rfl rfl ?_
      refine A_V2i (q := 114) X (c_X9_ruleAt (mg := mg) (dm := dm) (p := (i)) hG hN (h55) hWw hXG (by omega)) mX9_ruleAt kX9_182 dX9_machine_111 (by omega) h55 rfl (by decide) (Nat.le_of_ble_eq_true rfl) rfl (fun vq_3 cq_2 hq_1 => ?_)
      obtain ⟨rfl, hq_1⟩ := hq_1
      obtain rfl := hq_1.symm
      have hrg := rlZ_rg wl (((i) : Nat) : Int) mg
      refine A_bipush (q := 116) X dX9_machine_114 (by decide) rfl ?_
      refine A_icmp_ne (q := 119) (t := 125) X dX9_machine_116 (by omega) (by decide) rfl rfl (fun hb116 => ?_) (fun hb116 => ?_)
      · exact AW.loc (sS rfl (sS rfl (sS rfl (sS rfl (sN (sN sE)))))) (kk i hi hno (fun _ => hb116))
      · refine A_iinc (q := 122) X dX9_machine_119 rfl (by decide) (okP_s rfl rfl) rfl ?_
        refine A_goto (q := 96) X dX9_machine_122 rfl ?_
        exact AW.loc (sS rfl (sS rfl (sS rfl (sZ rfl (by omega) (sN (sN sE)))))) (ih (i + 1) (by omega) (by omega) (fun j hj => by rcases Nat.lt_or_ge j i with z | z; exact hno j z; (have e : j = i := by omega); (subst e; exact fun z2 => hb116 z2)))
set_option maxRecDepth 100000 in
set_option maxHeartbeats 4000000 in
theorem lpC_X9_machine {l : Launch} {G : Gm} {K : Cx} {c0 : HP} {l0 : List Int} {th ts rmb obn : Int} {sd : Int64} {mg : Prop} {dm : Decidable mg} (X : Fx l G K cX9_machine 6 RX9 ((some .boolean)) (rmR 4 107)) (hG : injG G) (hN : G.2.1 = 72) : ∀ (n : Nat) (i : Nat) (wl : List Int) (ap : Nat → Int) (a0 : Nat → Int) (pk : Int) (c : HP), 1000 - i < n → i ≤ 601 → c 55 = ob9 G th ts rmb obn sd 0 pk → Ww G c wl → XG wl → (∃ F, c 70 = aI G 321 F) → c 71 = aI G 5 ap → (∀ k, k < 5 → a0 k = ap k) → 0 ≤ pk ∧ pk ≤ 300 → (i ≤ 600 → (mrun mg 600 l0 (fun _ => 0) ((l0.length : Nat) : Int)) = mrun mg (600 - i) wl a0 pk) → (i = 601 → (mrun mg 600 l0 (fun _ => 0) ((l0.length : Nat) : Int)) = none) → (∀ k, k ≠ 55 → k ≠ 69 → k ≠ 70 → k ≠ 71 → c k = c0 k) → AW G K (Qi (fun v c' => v = zI (if (mrun mg 600 l0 (fun _ => 0) ((l0.length : Nat) : Int)).isSome = true then 1 else 0) ∧ (∃ tw' pk' ap', c' 55 = ob9 G th ts rmb obn sd tw' pk' ∧ (tw' = 0 ∨ tw' = 1) ∧ c' 71 = aI G 5 ap' ∧ ∀ q, (mrun mg 600 l0 (fun _ => 0) ((l0.length : Nat) : Int)) = some q → (∀ k, k < 5 → q.1 k = ap' k) ∧ q.2 = pk') ∧ (∃ F, c' 69 = aI G 321 F) ∧ (∃ F, c' 70 = aI G 321 F) ∧ (∀ k, k ≠ 55 → k ≠ 69 → k ≠ 70 → k ≠ 71 → c' k = c0 k))) 87 (mkL [some (.ref (G.1 55)), some (.int (zI (if mg then 1 else 0 : Int))), some (.int (zI ((i : Nat) : Int))), none, none, none]) [] c := by
  intro n
  induction n with
  | zero => intro i wl ap a0 pk c hmz; exact absurd hmz (Nat.not_lt_zero _)
  | succ n ih =>
    intro i wl ap a0 pk c hmz hi h55 hWw hXG hNx h71 ha0 hpk hi1 hi2 hf0
    obtain ⟨hwl, F, h69, hWS, hWF⟩ := (id hWw : Ww G c wl)
    refine A_iload_n (q := 88) X dX9_machine_87 rfl rfl ?_
    refine A_sipush (q := 91) X dX9_machine_88 (by decide) rfl ?_
    refine A_icmp_ge (q := 94) (t := 245) X dX9_machine_91 (by omega) (by decide) rfl rfl (fun hb91 => ?_) (fun hb91 => ?_)
    · refine A_iconst (q := 246) X dX9_machine_245 rfl ?_
      have hn9 := hi2 (by omega)
      exact A_zreturn X dX9_machine_246 (by decide) ⟨zb0 (by rw [hn9]; decide), ⟨_, _, _, h55, Or.inl rfl, h71, fun q hq => by rw [hn9] at hq; cases hq⟩, ⟨_, h69⟩, hNx, hf0⟩
    · refine A_iconst (q := 95) X dX9_machine_94 rfl ?_
      refine A_istore_n (q := 96) X dX9_machine_95 (by decide) (okP_s rfl rfl) rfl ?_
      refine AW.loc (sS rfl (sS rfl (sS rfl (sZ rfl rfl (sN (sN sE)))))) (lpD_X9_machine (st := i) X hG hN h55 hWw hXG ?_ _ 0 (Nat.lt_succ_self _) (Nat.zero_le _) (fun j hj => absurd hj (Nat.not_lt_zero _)))
      intro p hple hno hyes
      refine A_iload_n (q := 126) X dX9_machine_125 rfl rfl ?_
      refine A_aload_n (q := 127) X dX9_machine_126 rfl rfl ?_
      refine A_getf (q := 130) X fX9_50 dX9_machine_127 (by omega) h55 rfl rfl ?_
      refine A_sipush (q := 133) X dX9_machine_130 (by decide) rfl ?_
      refine A_iald (q := 134) (h := 69) 320 X dX9_machine_133 (by omega) h69 (by omega) (by omega) (by decide) rfl ?_
      rw [hWS]
      refine A_icmp_ne (q := 137) (t := 139) X dX9_machine_134 (by omega) (by omega) rfl rfl (fun hb134 => ?_) (fun hb134 => ?_)
      · have hpl : p < wl.length := by omega
        have hany := hyes hpl
        have hfn : fnd (anyR wl mg) wl.length = ((p : Nat) : Int) := fnd_some hany hno hpl
        have hrc := rlZ_cases hXG hpl hany
        have hr04 : 0 ≤ rlZ wl ((p : Nat) : Int) mg ∧ rlZ wl ((p : Nat) : Int) mg ≤ 4 := by rcases hrc.2 with z | z | z | z | z <;> omega
        obtain ⟨rr, hrr⟩ : ∃ rr : Nat, rlZ wl ((p : Nat) : Int) mg = ((rr : Nat) : Int) := ⟨(rlZ wl ((p : Nat) : Int) mg).toNat, by omega⟩
        refine A_aload_n (q := 140) X dX9_machine_139 rfl rfl ?_
        refine A_iload_n (q := 141) X dX9_machine_140 rfl rfl ?_
        refine A_iload_n (q := 142) X dX9_machine_141 rfl rfl ?_
        refine A_V2i (q := 145) X (c_X9_ruleAt (mg := mg) (dm := dm) (p := (p)) hG hN (h55) hWw hXG (by omega)) mX9_ruleAt kX9_182 dX9_machine_142 (by omega) h55 rfl (by decide) (Nat.le_of_ble_eq_true rfl) rfl (fun vq_3 cq_2 hq_1 => ?_)
        obtain ⟨rfl, hq_1⟩ := hq_1
        obtain rfl := hq_1.symm
        have hrg := rlZ_rg wl (((p) : Nat) : Int) mg
        rw [hrr]
        rw [hrr] at hrc hr04
        refine A_istore (q := 147) X dX9_machine_145 (by decide) (okP_s rfl rfl) rfl ?_
        refine A_aload_n (q := 148) X dX9_machine_147 rfl rfl ?_
        refine A_iload (q := 150) X dX9_machine_148 rfl rfl ?_
        refine A_iload_n (q := 151) X dX9_machine_150 rfl rfl ?_
        refine A_V2v (q := 154) X (c_X9_apply (r := ((rr : Nat) : Int)) hG hN h55 hNx hWw hXG hrc) mX9_apply kX9_186 dX9_machine_151 (by omega) h55 rfl (by decide) (Nat.le_of_ble_eq_true rfl) rfl (fun cq_5 hq_4 => ?_)
        obtain ⟨⟨tw, h552, ⟨F7, h702, hN0⟩, hNw⟩, hfa⟩ := hq_4
        refine A_aload_n (q := 155) X dX9_machine_154 rfl rfl ?_
        refine A_getf (q := 158) X fX9_161 dX9_machine_155 (by omega) h552 rfl rfl ?_
        refine A_if_eq (q := 161) (t := 163) X dX9_machine_158 (by omega) rfl rfl (fun hb158 => ?_) (fun hb158 => ?_)
        · subst hb158
          obtain ⟨hxl, hS7, hF7⟩ := hN0 rfl
          refine A_aload_n (q := 164) X dX9_machine_163 rfl rfl ?_
          refine A_getf (q := 167) X fX9_56 dX9_machine_164 (by omega) h552 rfl rfl ?_
          refine A_iload (q := 169) X dX9_machine_167 rfl rfl ?_
          refine A_dup2 (q := 170) X dX9_machine_169 rfl rfl rfl ?_
          refine A_iald (q := 171) (h := 71) (rr) X dX9_machine_170 (by omega) ((hfa _ (by omega) (by omega)).trans h71) (by omega) (by omega) (by decide) rfl ?_
          refine A_iconst (q := 172) X dX9_machine_171 rfl ?_
          refine A_iadd (q := 173) X dX9_machine_172 rfl ?_
          refine A_iast (q := 174) (h := 71) (rr) X dX9_machine_173 (by omega) ((hfa _ (by omega) (by omega)).trans h71) (by omega) (by omega) (by decide) rfl ?_
          refine A_iconst (q := 175) X dX9_machine_174 rfl ?_
          refine A_istore (q := 177) X dX9_machine_175 (by decide) (okP_s rfl rfl) rfl ?_
          refine AW.loc (sS rfl (sS rfl (sS rfl (sN (sN (sZ rfl rfl sE)))))) (lpE_X9_machine (F7 := F7) (st := i) X hG hN ((lk_ne (by omega) h552)) ((lk_ne (by omega) h702)) ?_ _ 0 _ _ (Nat.lt_succ_self _) (Nat.zero_le _) ((lk_ne (by omega) ((hfa _ (by omega) (by omega)).trans h69))) (fun k hk => absurd hk (Nat.not_lt_zero _)) (fun _ _ => rfl))
          intro c2 H h69b hHb hf2
          refine A_aload_n (q := 206) X dX9_machine_205 rfl rfl ?_
          refine A_aload_n (q := 207) X dX9_machine_206 rfl rfl ?_
          refine A_getf (q := 210) X fX9_50 dX9_machine_207 (by omega) ((hf2 _ (by omega)).trans (lk_ne (by omega) h552)) rfl rfl ?_
          refine A_sipush (q := 213) X dX9_machine_210 (by decide) rfl ?_
          refine A_iald (q := 214) (h := 69) 320 X dX9_machine_213 (by omega) h69b (by omega) (by omega) (by decide) rfl ?_
          rw [hHb 320 (by decide), hS7]
          refine A_aload_n (q := 215) X dX9_machine_214 rfl rfl ?_
          refine A_getf (q := 218) X fX9_179 dX9_machine_215 (by omega) ((hf2 _ (by omega)).trans (lk_ne (by omega) h552)) rfl rfl ?_
          refine A_icmp_le (q := 221) (t := 232) X dX9_machine_218 (by omega) (by omega) rfl rfl (fun hb218 => ?_) (fun hb218 => ?_)
          · refine A_aload_n (q := 233) X dX9_machine_232 rfl rfl ?_
            refine A_getf (q := 236) X fX9_179 dX9_machine_233 (by omega) ((hf2 _ (by omega)).trans (lk_ne (by omega) h552)) rfl rfl ?_
            refine A_putf (q := 239) X pX9_179 dX9_machine_236 (by omega) ((hf2 _ (by omega)).trans (lk_ne (by omega) h552)) (Nat.le_of_ble_eq_true rfl) rfl rfl rfl ?_
            refine A_iinc (q := 242) X dX9_machine_239 rfl (by decide) (okP_s rfl rfl) rfl ?_
            refine A_goto (q := 87) X dX9_machine_242 rfl ?_
            have hmx : max pk (((rwX wl p ((rr : Nat) : Int)).length : Nat) : Int) = pk := by omega
            have hi19 : i + 1 ≤ 600 → (mrun mg 600 l0 (fun _ => 0) ((l0.length : Nat) : Int)) = mrun mg (600 - (i + 1)) (rwX wl p ((rr : Nat) : Int)) (va_up a0 rr (a0 rr + 1)) pk := fun z => by
              have hs := hi1 (by omega)
              rw [show 600 - i = 600 - (i + 1) + 1 by omega, mrun_step hfn, hrr, if_neg (by omega), Int.toNat_natCast, hmx] at hs
              exact hs
            have hi29 : i + 1 = 601 → (mrun mg 600 l0 (fun _ => 0) ((l0.length : Nat) : Int)) = none := fun z => by
              rw [hi1 (by omega), show 600 - i = 0 by omega]
              exact mrun_none (by rw [hfn]; omega)
            exact AW.loc (sS rfl (sS rfl (sZ rfl (by omega) (sN (sN (sN sE)))))) (ih (i + 1) (rwX wl p ((rr : Nat) : Int)) (va_up ap rr (ap rr + 1)) (va_up a0 rr (a0 rr + 1)) pk _ (by omega) (by omega) (lk_eq) ⟨hxl, H, (lk_ne (by omega) h69b), (hHb 320 (by decide)).trans hS7, fun k hk => (hHb k (by omega)).trans (hF7 k hk)⟩ (XG_rw hXG hrc hxl) ⟨_, (lk_ne (by omega) ((hf2 _ (by omega)).trans (lk_ne (by omega) h702)))⟩ ((lk_ne (by omega) ((hf2 _ (by omega)).trans lk_eq))) (fun k hk => by by_cases e : k = rr; (subst e; rw [lk_eq, lk_eq, ha0 k hk]); rw [lk_ne e rfl, lk_ne e rfl]; exact ha0 k hk) (by omega) hi19 hi29 (fun k n0 n1 n2 n3 => (lk_ne (by omega) ((hf2 k (by omega)).trans (lk_ne (by omega) ((hfa k (by omega) (by omega)).trans (hf0 k n0 n1 n2 n3)))))))
          · refine A_aload_n (q := 222) X dX9_machine_221 rfl rfl ?_
            refine A_getf (q := 225) X fX9_50 dX9_machine_222 (by omega) ((hf2 _ (by omega)).trans (lk_ne (by omega) h552)) rfl rfl ?_
            refine A_sipush (q := 228) X dX9_machine_225 (by decide) rfl ?_
            refine A_iald (q := 229) (h := 69) 320 X dX9_machine_228 (by omega) h69b (by omega) (by omega) (by decide) rfl ?_
            rw [hHb 320 (by decide), hS7]
            refine A_goto (q := 236) X dX9_machine_229 rfl ?_
            refine A_putf (q := 239) X pX9_179 dX9_machine_236 (by omega) ((hf2 _ (by omega)).trans (lk_ne (by omega) h552)) (Nat.le_of_ble_eq_true rfl) rfl rfl rfl ?_
            refine A_iinc (q := 242) X dX9_machine_239 rfl (by decide) (okP_s rfl rfl) rfl ?_
            refine A_goto (q := 87) X dX9_machine_242 rfl ?_
            have hmx : max pk (((rwX wl p ((rr : Nat) : Int)).length : Nat) : Int) = (((rwX wl p ((rr : Nat) : Int)).length : Nat) : Int) := by omega
            have hi19 : i + 1 ≤ 600 → (mrun mg 600 l0 (fun _ => 0) ((l0.length : Nat) : Int)) = mrun mg (600 - (i + 1)) (rwX wl p ((rr : Nat) : Int)) (va_up a0 rr (a0 rr + 1)) (((rwX wl p ((rr : Nat) : Int)).length : Nat) : Int) := fun z => by
              have hs := hi1 (by omega)
              rw [show 600 - i = 600 - (i + 1) + 1 by omega, mrun_step hfn, hrr, if_neg (by omega), Int.toNat_natCast, hmx] at hs
              exact hs
            have hi29 : i + 1 = 601 → (mrun mg 600 l0 (fun _ => 0) ((l0.length : Nat) : Int)) = none := fun z => by
              rw [hi1 (by omega), show 600 - i = 0 by omega]
              exact mrun_none (by rw [hfn]; omega)
            exact AW.loc (sS rfl (sS rfl (sZ rfl (by omega) (sN (sN (sN sE)))))) (ih (i + 1) (rwX wl p ((rr : Nat) : Int)) (va_up ap rr (ap rr + 1)) (va_up a0 rr (a0 rr + 1)) (((rwX wl p ((rr : Nat) : Int)).length : Nat) : Int) _ (by omega) (by omega) (lk_eq) ⟨hxl, H, (lk_ne (by omega) h69b), (hHb 320 (by decide)).trans hS7, fun k hk => (hHb k (by omega)).trans (hF7 k hk)⟩ (XG_rw hXG hrc hxl) ⟨_, (lk_ne (by omega) ((hf2 _ (by omega)).trans (lk_ne (by omega) h702)))⟩ ((lk_ne (by omega) ((hf2 _ (by omega)).trans lk_eq))) (fun k hk => by by_cases e : k = rr; (subst e; rw [lk_eq, lk_eq, ha0 k hk]); rw [lk_ne e rfl, lk_ne e rfl]; exact ha0 k hk) (by omega) hi19 hi29 (fun k n0 n1 n2 n3 => (lk_ne (by omega) ((hf2 k (by omega)).trans (lk_ne (by omega) ((hfa k (by omega) (by omega)).trans (hf0 k n0 n1 n2 n3)))))))
        · refine A_iconst (q := 162) X dX9_machine_161 rfl ?_
          have htw1 : tw = 1 ∧ 300 < (rwX wl p ((rr : Nat) : Int)).length := by rcases hNw with z | z; exact absurd z hb158; exact z
          have hn9 : (mrun mg 600 l0 (fun _ => 0) ((l0.length : Nat) : Int)) = none := by
            rw [hi1 (by omega)]
            cases hm9 : 600 - i with
            | zero => exact mrun_none (by rw [hfn]; omega)
            | succ n9 => rw [mrun_step hfn, hrr, if_pos htw1.2]
          exact A_zreturn X dX9_machine_162 (by decide) ⟨zb0 (by rw [hn9]; decide), ⟨_, _, _, h552, Or.inr htw1.1, ((hfa _ (by omega) (by omega)).trans h71), fun q hq => by rw [hn9] at hq; cases hq⟩, ⟨_, ((hfa _ (by omega) (by omega)).trans h69)⟩, ⟨_, h702⟩, (fun k n0 n1 n2 n3 => ((hfa k (by omega) (by omega)).trans (hf0 k n0 n1 n2 n3)))⟩
      · refine A_iconst (q := 138) X dX9_machine_137 rfl ?_
        have hs9 : (mrun mg 600 l0 (fun _ => 0) ((l0.length : Nat) : Int)) = some (a0, pk) := (hi1 (by omega)).trans (mrun_stop (fnd_none (fun k hk => hno k (by omega))))
        exact A_zreturn X dX9_machine_138 (by decide) ⟨zb1 (by rw [hs9]; rfl), ⟨_, _, _, h55, Or.inl rfl, h71, fun q hq => by rw [hs9] at hq; cases hq; exact ⟨ha0, rfl⟩⟩, ⟨_, h69⟩, hNx, hf0⟩
set_option maxRecDepth 100000 in
set_option maxHeartbeats 4000000 in
theorem lpB_X9_machine {l : Launch} {G : Gm} {K : Cx} {c0 : HP} {l0 : List Int} {F7 ap : Nat → Int} {tw : Int} {mg : Prop} {dm : Decidable mg} {th ts rmb obn pk : Int} {sd : Int64} (X : Fx l G K cX9_machine 6 RX9 ((some .boolean)) (rmR 4 107)) (hG : injG G) (hN : G.2.1 = 72) (hT0 : Mt G c0 57 l0) (hgd : Gd l0) (hap : ∀ k, k < 5 → ap k = 0) : ∀ (n : Nat) (i : Nat) (H : Nat → Int) (c : HP), l0.length - i < n → i ≤ l0.length → c 55 = ob9 G th ts rmb obn sd tw pk → c 69 = aI G 321 H → c 70 = aI G 321 F7 → c 71 = aI G 5 ap → (∀ k, k < i → H k = l0.getD k 0) → (∀ k, k ≠ 55 → k ≠ 69 → k ≠ 70 → k ≠ 71 → c k = c0 k) → AW G K (Qi (fun v c' => v = zI (if (mrun mg 600 l0 (fun _ => 0) ((l0.length : Nat) : Int)).isSome = true then 1 else 0) ∧ (∃ tw' pk' ap', c' 55 = ob9 G th ts rmb obn sd tw' pk' ∧ (tw' = 0 ∨ tw' = 1) ∧ c' 71 = aI G 5 ap' ∧ ∀ q, (mrun mg 600 l0 (fun _ => 0) ((l0.length : Nat) : Int)) = some q → (∀ k, k < 5 → q.1 k = ap' k) ∧ q.2 = pk') ∧ (∃ F, c' 69 = aI G 321 F) ∧ (∃ F, c' 70 = aI G 321 F) ∧ (∀ k, k ≠ 55 → k ≠ 69 → k ≠ 70 → k ≠ 71 → c' k = c0 k))) 22 (mkL [some (.ref (G.1 55)), some (.int (zI (if mg then 1 else 0 : Int))), some (.int (zI ((i : Nat) : Int))), none, none, none]) [] c := by
  intro n
  induction n with
  | zero => intro i H c hmz; exact absurd hmz (Nat.not_lt_zero _)
  | succ n ih =>
    intro i H c hmz hi h55 h69 h70 h71 hH hf0
    have hT := hT0.keep (hf0 57 (by decide) (by decide) (by decide) (by decide))
    obtain ⟨-, hl0, F, h57, hS, hF⟩ := hT
    refine A_iload_n (q := 23) X dX9_machine_22 rfl rfl ?_
    refine A_aload_n (q := 24) X dX9_machine_23 rfl rfl ?_
    refine A_getf (q := 27) X fX9_13 dX9_machine_24 (by omega) h55 rfl rfl ?_
    refine A_sipush (q := 30) X dX9_machine_27 (by decide) rfl ?_
    refine A_iald (q := 31) (h := 57) 200 X dX9_machine_30 (by omega) h57 (by omega) (by omega) (by decide) rfl ?_
    rw [hS]
    refine A_icmp_ge (q := 34) (t := 52) X dX9_machine_31 (by omega) (by omega) rfl rfl (fun hb31 => ?_) (fun hb31 => ?_)
    · refine A_aload_n (q := 53) X dX9_machine_52 rfl rfl ?_
      refine A_getf (q := 56) X fX9_50 dX9_machine_53 (by omega) h55 rfl rfl ?_
      refine A_sipush (q := 59) X dX9_machine_56 (by decide) rfl ?_
      refine A_aload_n (q := 60) X dX9_machine_59 rfl rfl ?_
      refine A_getf (q := 63) X fX9_13 dX9_machine_60 (by omega) h55 rfl rfl ?_
      refine A_sipush (q := 66) X dX9_machine_63 (by decide) rfl ?_
      refine A_iald (q := 67) (h := 57) 200 X dX9_machine_66 (by omega) h57 (by omega) (by omega) (by decide) rfl ?_
      rw [hS]
      refine A_iast (q := 68) (h := 69) 320 X dX9_machine_67 (by omega) h69 (by omega) (by omega) (by decide) rfl ?_
      refine A_aload_n (q := 69) X dX9_machine_68 rfl rfl ?_
      refine A_aload_n (q := 70) X dX9_machine_69 rfl rfl ?_
      refine A_getf (q := 73) X fX9_13 dX9_machine_70 (by omega) (lk_ne (by omega) h55) rfl rfl ?_
      refine A_sipush (q := 76) X dX9_machine_73 (by decide) rfl ?_
      refine A_iald (q := 77) (h := 57) 200 X dX9_machine_76 (by omega) (lk_ne (by omega) h57) (by omega) (by omega) (by decide) rfl ?_
      rw [hS]
      refine A_putf (q := 80) X pX9_179 dX9_machine_77 (by omega) (lk_ne (by omega) h55) (Nat.le_of_ble_eq_true rfl) rfl rfl rfl ?_
      refine A_aload_n (q := 81) X dX9_machine_80 rfl rfl ?_
      refine A_iconst (q := 82) X dX9_machine_81 rfl ?_
      refine A_putf (q := 85) X pX9_161 dX9_machine_82 (by omega) lk_eq (Nat.le_of_ble_eq_true rfl) (bz_ok (Or.inl rfl)).1 (bz_ok (Or.inl rfl)).2 rfl ?_
      refine A_iconst (q := 86) X dX9_machine_85 rfl ?_
      refine A_istore_n (q := 87) X dX9_machine_86 (by decide) (okP_s rfl rfl) rfl ?_
      exact AW.loc (sS rfl (sS rfl (sZ rfl rfl (sN (sN (sN sE)))))) (lpC_X9_machine (l0 := l0) X hG hN _ 0 l0 ap (fun _ => 0) ((l0.length : Nat) : Int) _ (Nat.lt_succ_self _) (Nat.zero_le _) (lk_eq) ⟨by omega, _, (lk_ne (by omega) (lk_ne (by omega) lk_eq)), lk_eq, fun k hk => lk_ne (by omega) (hH k (by omega))⟩ hgd.xg ⟨_, (lk_ne (by omega) (lk_ne (by omega) (lk_ne (by omega) h70)))⟩ ((lk_ne (by omega) (lk_ne (by omega) (lk_ne (by omega) h71)))) (fun k hk => (hap k hk).symm) (by omega) (fun _ => rfl) (fun z => absurd z (by decide)) (fun k n0 n1 n2 n3 => (lk_ne (by omega) (lk_ne (by omega) (lk_ne (by omega) (hf0 k n0 n1 n2 n3))))))
    · refine A_aload_n (q := 35) X dX9_machine_34 rfl rfl ?_
      refine A_getf (q := 38) X fX9_50 dX9_machine_35 (by omega) h55 rfl rfl ?_
      refine A_iload_n (q := 39) X dX9_machine_38 rfl rfl ?_
      refine A_aload_n (q := 40) X dX9_machine_39 rfl rfl ?_
      refine A_getf (q := 43) X fX9_13 dX9_machine_40 (by omega) h55 rfl rfl ?_
      refine A_iload_n (q := 44) X dX9_machine_43 rfl rfl ?_
      refine A_iald (q := 45) (h := 57) (i) X dX9_machine_44 (by omega) h57 (by omega) (by omega) (by decide) rfl ?_
      rw [hF i (by omega)]
      refine A_iast (q := 46) (h := 69) (i) X dX9_machine_45 (by omega) h69 (by omega) (by omega) (by decide) rfl ?_
      refine A_iinc (q := 49) X dX9_machine_46 rfl (by decide) (okP_s rfl rfl) rfl ?_
      refine A_goto (q := 22) X dX9_machine_49 rfl ?_
      exact AW.loc (sS rfl (sS rfl (sZ rfl (by omega) (sN (sN (sN sE)))))) (ih (i + 1) _ _ (by omega) (by omega) ((lk_ne (by omega) h55)) (lk_eq) ((lk_ne (by omega) h70)) ((lk_ne (by omega) h71)) (fun k hk => by by_cases e : k = i; (subst e; exact lk_eq); exact lk_ne e (hH k (by omega))) (fun k n0 n1 n2 n3 => (lk_ne (by omega) (hf0 k n0 n1 n2 n3))))
set_option maxRecDepth 100000 in
set_option maxHeartbeats 4000000 in
theorem lpA_X9_machine {l : Launch} {G : Gm} {K : Cx} {c0 : HP} {l0 : List Int} {F7 H : Nat → Int} {tw : Int} {mg : Prop} {dm : Decidable mg} {th ts rmb obn pk : Int} {sd : Int64} (X : Fx l G K cX9_machine 6 RX9 ((some .boolean)) (rmR 4 107)) (hG : injG G) (hN : G.2.1 = 72) (hT0 : Mt G c0 57 l0) (hgd : Gd l0) : ∀ (n : Nat) (i : Nat) (ap : Nat → Int) (c : HP), 5 - i < n → i ≤ 5 → c 55 = ob9 G th ts rmb obn sd tw pk → c 69 = aI G 321 H → c 70 = aI G 321 F7 → c 71 = aI G 5 ap → (∀ k, k < i → ap k = 0) → (∀ k, k ≠ 55 → k ≠ 69 → k ≠ 70 → k ≠ 71 → c k = c0 k) → AW G K (Qi (fun v c' => v = zI (if (mrun mg 600 l0 (fun _ => 0) ((l0.length : Nat) : Int)).isSome = true then 1 else 0) ∧ (∃ tw' pk' ap', c' 55 = ob9 G th ts rmb obn sd tw' pk' ∧ (tw' = 0 ∨ tw' = 1) ∧ c' 71 = aI G 5 ap' ∧ ∀ q, (mrun mg 600 l0 (fun _ => 0) ((l0.length : Nat) : Int)) = some q → (∀ k, k < 5 → q.1 k = ap' k) ∧ q.2 = pk') ∧ (∃ F, c' 69 = aI G 321 F) ∧ (∃ F, c' 70 = aI G 321 F) ∧ (∀ k, k ≠ 55 → k ≠ 69 → k ≠ 70 → k ≠ 71 → c' k = c0 k))) 2 (mkL [some (.ref (G.1 55)), some (.int (zI (if mg then 1 else 0 : Int))), some (.int (zI ((i : Nat) : Int))), none, none, none]) [] c := by
  intro n
  induction n with
  | zero => intro i ap c hmz; exact absurd hmz (Nat.not_lt_zero _)
  | succ n ih =>
    intro i ap c hmz hi h55 h69 h70 h71 hap hf0
    refine A_iload_n (q := 3) X dX9_machine_2 rfl rfl ?_
    refine A_iconst (q := 4) X dX9_machine_3 rfl ?_
    refine A_icmp_ge (q := 7) (t := 20) X dX9_machine_4 (by omega) (by decide) rfl rfl (fun hb4 => ?_) (fun hb4 => ?_)
    · refine A_iconst (q := 21) X dX9_machine_20 rfl ?_
      refine A_istore_n (q := 22) X dX9_machine_21 (by decide) (okP_s rfl rfl) rfl ?_
      exact AW.loc (sS rfl (sS rfl (sZ rfl rfl (sN (sN (sN sE)))))) (lpB_X9_machine X hG hN hT0 hgd (fun k hk => hap k (by omega)) _ 0 _ _ (Nat.lt_succ_self _) (Nat.zero_le _) h55 h69 h70 h71 (fun k hk => absurd hk (Nat.not_lt_zero _)) hf0)
    · refine A_aload_n (q := 8) X dX9_machine_7 rfl rfl ?_
      refine A_getf (q := 11) X fX9_56 dX9_machine_8 (by omega) h55 rfl rfl ?_
      refine A_iload_n (q := 12) X dX9_machine_11 rfl rfl ?_
      refine A_iconst (q := 13) X dX9_machine_12 rfl ?_
      refine A_iast (q := 14) (h := 71) (i) X dX9_machine_13 (by omega) h71 (by omega) (by omega) (by decide) rfl ?_
      refine A_iinc (q := 17) X dX9_machine_14 rfl (by decide) (okP_s rfl rfl) rfl ?_
      refine A_goto (q := 2) X dX9_machine_17 rfl ?_
      exact AW.loc (sS rfl (sS rfl (sZ rfl (by omega) (sN (sN (sN sE)))))) (ih (i + 1) _ _ (by omega) (by omega) ((lk_ne (by omega) h55)) ((lk_ne (by omega) h69)) ((lk_ne (by omega) h70)) (lk_eq) (fun k hk => by by_cases e : k = i; (subst e; exact lk_eq); exact lk_ne e (hap k (by omega))) (fun k n0 n1 n2 n3 => (lk_ne (by omega) (hf0 k n0 n1 n2 n3))))
set_option maxRecDepth 100000 in
set_option maxHeartbeats 4000000 in
theorem c_X9_machine {l : Launch} {G : Gm} {c : HP} {l0 : List Int} {tw : Int} {mg : Prop} {dm : Decidable mg} {th ts rmb obn pk : Int} {sd : Int64} (hG : injG G) (hN : G.2.1 = 72) (h55 : c 55 = ob9 G th ts rmb obn sd tw pk) (hT : Mt G c 57 l0) (hgd : Gd l0) (hWd : Wd9 G c) : AMet l G yX9_machine cX9_machine 6 ((some .boolean)) (rmR 4 107) [.ref (G.1 55), .int (zI (if mg then 1 else 0 : Int))] c (Qi (fun v c' => v = zI (if (mrun mg 600 l0 (fun _ => 0) ((l0.length : Nat) : Int)).isSome = true then 1 else 0) ∧ (∃ tw' pk' ap', c' 55 = ob9 G th ts rmb obn sd tw' pk' ∧ (tw' = 0 ∨ tw' = 1) ∧ c' 71 = aI G 5 ap' ∧ ∀ q, (mrun mg 600 l0 (fun _ => 0) ((l0.length : Nat) : Int)) = some q → (∀ k, k < 5 → q.1 k = ap' k) ∧ q.2 = pk') ∧ (∃ F, c' 69 = aI G 321 F) ∧ (∃ F, c' 70 = aI G 321 F) ∧ (∀ k, k ≠ 55 → k ≠ 69 → k ≠ 70 → k ≠ 71 → c' k = c k))) := by
  refine AMet.of (vl := [some (.ref (G.1 55)), some (.int (zI (if mg then 1 else 0 : Int)))]) (by decide) hG (Nat.le_of_ble_eq_true rfl) rfl ?_
  intro K X
  have X : Fx l G K cX9_machine 6 RX9 ((some .boolean)) (rmR 4 107) := X
  obtain ⟨⟨H, h69⟩, ⟨F7, h70⟩, ⟨ap, h71⟩⟩ := hWd
  refine A_iconst (q := 1) X dX9_machine_0 rfl ?_
  refine A_istore_n (q := 2) X dX9_machine_1 (by decide) (okP_s rfl rfl) rfl ?_
  exact AW.loc (sS rfl (sS rfl (sZ rfl rfl (sN (sN (sN sE)))))) (lpA_X9_machine X hG hN hT hgd _ 0 _ c (Nat.lt_succ_self _) (Nat.zero_le _) h55 h69 h70 h71 (fun k hk => absurd hk (Nat.not_lt_zero _)) (fun _ _ _ _ _ => rfl))
set_option maxRecDepth 100000 in
set_option maxHeartbeats 4000000 in
theorem c_X9_machineSteps {l : Launch} {G : Gm} {c : HP} {tm x : List Int} {hs : List (List Int)} {s0 s1 : List Int} {o : List (Int × Int)} {sd : Int64} {r m : Int} (hG : injG G) (hrr : rg r) (hmr : rg m) (hW : WM G c (tm, x, hs, s0, s1, o, sd)) : AMet l G yX9_machineSteps cX9_machineSteps 3 ((some .int)) (rmR 5 132) [.ref (G.1 55), .int (zI r), .int (zI m)] c (Qi (fun v c' => v = zI (fMSteps r m (tm, x, hs, s0, s1, o, sd)).1 ∧ WM G c' (fMSteps r m (tm, x, hs, s0, s1, o, sd)).2 ∧ (∀ k, k < 55 → c' k = c k))) := by
  refine AMet.of (vl := [some (.ref (G.1 55)), some (.int (zI r)), some (.int (zI m))]) (by decide) hG (Nat.le_of_ble_eq_true rfl) rfl ?_
  intro K X
  have X : Fx l G K cX9_machineSteps 3 RX9 ((some .int)) (rmR 5 132) := X
  obtain ⟨hN, ⟨th, tw, pk, h55, htw⟩, hX, hT, hgd, hR8, hR9, hO, hH, hV, hB, hSc, hWd⟩ := hW
  dsimp only at h55 hX hT hgd hH hV hB
  have hl0 := hT.len
  have hxl := hX.1
  have hhl := hH.1
  have hol := hB.1
  refine A_aload_n (q := 1) X dX9_machineSteps_0 rfl rfl ?_
  refine A_iconst (q := 2) X dX9_machineSteps_1 rfl ?_
  refine A_putf (q := 5) X pX9_59 dX9_machineSteps_2 (by omega) h55 (Nat.le_of_ble_eq_true rfl) rfl rfl rfl ?_
  refine A_iload_n (q := 6) X dX9_machineSteps_5 rfl rfl ?_
  refine A_i2l (q := 7) X dX9_machineSteps_6 rfl ?_
  refine A_lconst (q := 8) (v := 0) X dX9_machineSteps_7 rfl rfl ?_
  refine A_ldc2 (q := 11) X dX9_machineSteps_8 nX9_189 rfl ?_
  refine A_S3i (q := 14) X (c_inZ (a := r) (b := 0) (d := 4) hG rfl (by decide) (by decide) (by omega) (by omega) (by omega)) mX9_in kX9_114 dX9_machineSteps_11 (by decide) (Nat.le_of_ble_eq_true rfl) rfl (fun vq_3 cq_2 hq_1 => ?_)
  obtain ⟨rfl, hq_1⟩ := hq_1
  obtain rfl := hq_1.symm
  refine A_beq (q := 17) (t := 27) X dX9_machineSteps_14 rfl rfl (fun hb14 => ?_) (fun hb14 => ?_)
  · refine A_bipush (q := 29) X dX9_machineSteps_27 (by decide) rfl ?_
    have e9 : fMSteps r m (tm, x, hs, s0, s1, o, sd) = (-2, (tm, x, hs, s0, s1, o, sd)) := by unfold fMSteps; rw [if_neg (by omega)]
    exact A_ireturn X dX9_machineSteps_29 ⟨by rw [e9], by rw [e9]; exact ⟨hN, ⟨_, _, _, lk_eq, htw⟩, (hX.keep (lk_ne (by omega) rfl)), (hT.keep (lk_ne (by omega) rfl)), hgd, (hR8.keep (lk_ne (by omega) rfl)), (hR9.keep (lk_ne (by omega) rfl)), (hO.keep (lk_ne (by omega) rfl)), (hH.keep (lk_ne (by omega) rfl)), (hV.keep (lk_ne (by omega) rfl) (lk_ne (by omega) rfl)), (hB.keep (lk_ne (by omega) rfl) (lk_ne (by omega) rfl)), (hSc.keep (lk_ne (by omega) rfl) (lk_ne (by omega) rfl) (lk_ne (by omega) rfl)), (hWd.keep (lk_ne (by omega) rfl) (lk_ne (by omega) rfl) (lk_ne (by omega) rfl))⟩, (fun k n0 => (lk_ne (by omega) rfl))⟩
  · refine A_iload_n (q := 18) X dX9_machineSteps_17 rfl rfl ?_
    refine A_i2l (q := 19) X dX9_machineSteps_18 rfl ?_
    refine A_lconst (q := 20) (v := 0) X dX9_machineSteps_19 rfl rfl ?_
    refine A_lconst (q := 21) (v := 1) X dX9_machineSteps_20 rfl rfl ?_
    refine A_S3i (q := 24) X (c_inZ (a := m) (b := 0) (d := 1) hG rfl (by decide) (by decide) (by omega) (by omega) (by omega)) mX9_in kX9_114 dX9_machineSteps_21 (by decide) (Nat.le_of_ble_eq_true rfl) rfl (fun vq_6 cq_5 hq_4 => ?_)
    obtain ⟨rfl, hq_4⟩ := hq_4
    obtain rfl := hq_4.symm
    refine A_bne (q := 27) (t := 30) X dX9_machineSteps_24 rfl rfl (fun hb24 => ?_) (fun hb24 => ?_)
    · refine A_aload_n (q := 31) X dX9_machineSteps_30 rfl rfl ?_
      refine A_iload_n (q := 32) X dX9_machineSteps_31 rfl rfl ?_
      refine A_iconst (q := 33) X dX9_machineSteps_32 rfl ?_
      refine A_icmp_ne (q := 36) (t := 40) X dX9_machineSteps_33 (by omega) (by decide) rfl rfl (fun hb33 => ?_) (fun hb33 => ?_)
      · refine A_iconst (q := 41) X dX9_machineSteps_40 rfl ?_
        rw [show zI 0 = zI (if m = 1 then 1 else 0) from zb0 (by omega)]
        refine A_V1i (q := 44) X (c_X9_machine (mg := (m = 1)) (l0 := tm) hG hN (lk_eq) (hT.keep (lk_ne (by omega) rfl)) hgd (hWd.keep (lk_ne (by omega) rfl) (lk_ne (by omega) rfl) (lk_ne (by omega) rfl))) mX9_machine kX9_191 dX9_machineSteps_41 (by omega) lk_eq rfl (by decide) (Nat.le_of_ble_eq_true rfl) rfl (fun vq_9 cq_8 hq_7 => ?_)
        obtain ⟨rfl, ⟨tw9, pk9, ap9, h559, htw9, h719, hr9⟩, h699, h709, hf9⟩ := hq_7
        have hWd9 : Wd9 G cq_8 := ⟨h699, h709, ⟨_, h719⟩⟩
        refine A_beq (q := 47) (t := 56) X dX9_machineSteps_44 rfl rfl (fun hb44 => ?_) (fun hb44 => ?_)
        · refine A_bipush (q := 58) X dX9_machineSteps_56 (by decide) rfl ?_
          have hno : (mrun (m = 1) 600 tm (fun _ => 0) ((tm.length : Nat) : Int)) = none := by cases h : (mrun (m = 1) 600 tm (fun _ => 0) ((tm.length : Nat) : Int)) with | none => rfl | some q => exact absurd (by rw [h]; rfl) hb44
          have e9 : fMSteps r m (tm, x, hs, s0, s1, o, sd) = (-9, (tm, x, hs, s0, s1, o, sd)) := by unfold fMSteps; rw [if_pos (by omega), hno]
          exact A_ireturn X dX9_machineSteps_58 ⟨by rw [e9], by rw [e9]; exact ⟨hN, ⟨_, _, _, h559, htw9⟩, (hX.keep ((hf9 56 (by omega) (by omega) (by omega) (by omega)).trans (lk_ne (by omega) rfl))), (hT.keep ((hf9 57 (by omega) (by omega) (by omega) (by omega)).trans (lk_ne (by omega) rfl))), hgd, (hR8.keep ((hf9 58 (by omega) (by omega) (by omega) (by omega)).trans (lk_ne (by omega) rfl))), (hR9.keep ((hf9 59 (by omega) (by omega) (by omega) (by omega)).trans (lk_ne (by omega) rfl))), (hO.keep ((hf9 60 (by omega) (by omega) (by omega) (by omega)).trans (lk_ne (by omega) rfl))), (hH.keep ((hf9 61 (by omega) (by omega) (by omega) (by omega)).trans (lk_ne (by omega) rfl))), (hV.keep ((hf9 62 (by omega) (by omega) (by omega) (by omega)).trans (lk_ne (by omega) rfl)) ((hf9 63 (by omega) (by omega) (by omega) (by omega)).trans (lk_ne (by omega) rfl))), (hB.keep ((hf9 64 (by omega) (by omega) (by omega) (by omega)).trans (lk_ne (by omega) rfl)) ((hf9 65 (by omega) (by omega) (by omega) (by omega)).trans (lk_ne (by omega) rfl))), (hSc.keep ((hf9 66 (by omega) (by omega) (by omega) (by omega)).trans (lk_ne (by omega) rfl)) ((hf9 67 (by omega) (by omega) (by omega) (by omega)).trans (lk_ne (by omega) rfl)) ((hf9 68 (by omega) (by omega) (by omega) (by omega)).trans (lk_ne (by omega) rfl))), hWd9⟩, (fun k n0 => ((hf9 k (by omega) (by omega) (by omega) (by omega)).trans (lk_ne (by omega) rfl)))⟩
        · obtain ⟨q9, hq9⟩ : ∃ q9, (mrun (m = 1) 600 tm (fun _ => 0) ((tm.length : Nat) : Int)) = some q9 := Option.isSome_iff_exists.mp hb44
          have hr2 := hr9 q9 hq9
          refine A_aload_n (q := 48) X dX9_machineSteps_47 rfl rfl ?_
          refine A_getf (q := 51) X fX9_56 dX9_machineSteps_48 (by omega) h559 rfl rfl ?_
          refine A_iload_n (q := 52) X dX9_machineSteps_51 rfl rfl ?_
          refine A_iald (q := 53) (h := 71) ((r).toNat) X dX9_machineSteps_52 (by omega) h719 (by omega) (by omega) (by decide) rfl ?_
          refine A_goto (q := 58) X dX9_machineSteps_53 rfl ?_
          have e9 : fMSteps r m (tm, x, hs, s0, s1, o, sd) = (q9.1 r.toNat, (tm, x, hs, s0, s1, o, sd)) := by unfold fMSteps; rw [if_pos (by omega), hq9]
          exact A_ireturn X dX9_machineSteps_58 ⟨by rw [e9, hr2.1 r.toNat (by omega)], by rw [e9]; exact ⟨hN, ⟨_, _, _, h559, htw9⟩, (hX.keep ((hf9 56 (by omega) (by omega) (by omega) (by omega)).trans (lk_ne (by omega) rfl))), (hT.keep ((hf9 57 (by omega) (by omega) (by omega) (by omega)).trans (lk_ne (by omega) rfl))), hgd, (hR8.keep ((hf9 58 (by omega) (by omega) (by omega) (by omega)).trans (lk_ne (by omega) rfl))), (hR9.keep ((hf9 59 (by omega) (by omega) (by omega) (by omega)).trans (lk_ne (by omega) rfl))), (hO.keep ((hf9 60 (by omega) (by omega) (by omega) (by omega)).trans (lk_ne (by omega) rfl))), (hH.keep ((hf9 61 (by omega) (by omega) (by omega) (by omega)).trans (lk_ne (by omega) rfl))), (hV.keep ((hf9 62 (by omega) (by omega) (by omega) (by omega)).trans (lk_ne (by omega) rfl)) ((hf9 63 (by omega) (by omega) (by omega) (by omega)).trans (lk_ne (by omega) rfl))), (hB.keep ((hf9 64 (by omega) (by omega) (by omega) (by omega)).trans (lk_ne (by omega) rfl)) ((hf9 65 (by omega) (by omega) (by omega) (by omega)).trans (lk_ne (by omega) rfl))), (hSc.keep ((hf9 66 (by omega) (by omega) (by omega) (by omega)).trans (lk_ne (by omega) rfl)) ((hf9 67 (by omega) (by omega) (by omega) (by omega)).trans (lk_ne (by omega) rfl)) ((hf9 68 (by omega) (by omega) (by omega) (by omega)).trans (lk_ne (by omega) rfl))), hWd9⟩, (fun k n0 => ((hf9 k (by omega) (by omega) (by omega) (by omega)).trans (lk_ne (by omega) rfl)))⟩
      · refine A_iconst (q := 37) X dX9_machineSteps_36 rfl ?_
        refine A_goto (q := 41) X dX9_machineSteps_37 rfl ?_
        rw [show zI 1 = zI (if m = 1 then 1 else 0) from zb1 (by omega)]
        refine A_V1i (q := 44) X (c_X9_machine (mg := (m = 1)) (l0 := tm) hG hN (lk_eq) (hT.keep (lk_ne (by omega) rfl)) hgd (hWd.keep (lk_ne (by omega) rfl) (lk_ne (by omega) rfl) (lk_ne (by omega) rfl))) mX9_machine kX9_191 dX9_machineSteps_41 (by omega) lk_eq rfl (by decide) (Nat.le_of_ble_eq_true rfl) rfl (fun vq_12 cq_11 hq_10 => ?_)
        obtain ⟨rfl, ⟨tw9, pk9, ap9, h559, htw9, h719, hr9⟩, h699, h709, hf9⟩ := hq_10
        have hWd9 : Wd9 G cq_11 := ⟨h699, h709, ⟨_, h719⟩⟩
        refine A_beq (q := 47) (t := 56) X dX9_machineSteps_44 rfl rfl (fun hb44 => ?_) (fun hb44 => ?_)
        · refine A_bipush (q := 58) X dX9_machineSteps_56 (by decide) rfl ?_
          have hno : (mrun (m = 1) 600 tm (fun _ => 0) ((tm.length : Nat) : Int)) = none := by cases h : (mrun (m = 1) 600 tm (fun _ => 0) ((tm.length : Nat) : Int)) with | none => rfl | some q => exact absurd (by rw [h]; rfl) hb44
          have e9 : fMSteps r m (tm, x, hs, s0, s1, o, sd) = (-9, (tm, x, hs, s0, s1, o, sd)) := by unfold fMSteps; rw [if_pos (by omega), hno]
          exact A_ireturn X dX9_machineSteps_58 ⟨by rw [e9], by rw [e9]; exact ⟨hN, ⟨_, _, _, h559, htw9⟩, (hX.keep ((hf9 56 (by omega) (by omega) (by omega) (by omega)).trans (lk_ne (by omega) rfl))), (hT.keep ((hf9 57 (by omega) (by omega) (by omega) (by omega)).trans (lk_ne (by omega) rfl))), hgd, (hR8.keep ((hf9 58 (by omega) (by omega) (by omega) (by omega)).trans (lk_ne (by omega) rfl))), (hR9.keep ((hf9 59 (by omega) (by omega) (by omega) (by omega)).trans (lk_ne (by omega) rfl))), (hO.keep ((hf9 60 (by omega) (by omega) (by omega) (by omega)).trans (lk_ne (by omega) rfl))), (hH.keep ((hf9 61 (by omega) (by omega) (by omega) (by omega)).trans (lk_ne (by omega) rfl))), (hV.keep ((hf9 62 (by omega) (by omega) (by omega) (by omega)).trans (lk_ne (by omega) rfl)) ((hf9 63 (by omega) (by omega) (by omega) (by omega)).trans (lk_ne (by omega) rfl))), (hB.keep ((hf9 64 (by omega) (by omega) (by omega) (by omega)).trans (lk_ne (by omega) rfl)) ((hf9 65 (by omega) (by omega) (by omega) (by omega)).trans (lk_ne (by omega) rfl))), (hSc.keep ((hf9 66 (by omega) (by omega) (by omega) (by omega)).trans (lk_ne (by omega) rfl)) ((hf9 67 (by omega) (by omega) (by omega) (by omega)).trans (lk_ne (by omega) rfl)) ((hf9 68 (by omega) (by omega) (by omega) (by omega)).trans (lk_ne (by omega) rfl))), hWd9⟩, (fun k n0 => ((hf9 k (by omega) (by omega) (by omega) (by omega)).trans (lk_ne (by omega) rfl)))⟩
        · obtain ⟨q9, hq9⟩ : ∃ q9, (mrun (m = 1) 600 tm (fun _ => 0) ((tm.length : Nat) : Int)) = some q9 := Option.isSome_iff_exists.mp hb44
          have hr2 := hr9 q9 hq9
          refine A_aload_n (q := 48) X dX9_machineSteps_47 rfl rfl ?_
          refine A_getf (q := 51) X fX9_56 dX9_machineSteps_48 (by omega) h559 rfl rfl ?_
          refine A_iload_n (q := 52) X dX9_machineSteps_51 rfl rfl ?_
          refine A_iald (q := 53) (h := 71) ((r).toNat) X dX9_machineSteps_52 (by omega) h719 (by omega) (by omega) (by decide) rfl ?_
          refine A_goto (q := 58) X dX9_machineSteps_53 rfl ?_
          have e9 : fMSteps r m (tm, x, hs, s0, s1, o, sd) = (q9.1 r.toNat, (tm, x, hs, s0, s1, o, sd)) := by unfold fMSteps; rw [if_pos (by omega), hq9]
          exact A_ireturn X dX9_machineSteps_58 ⟨by rw [e9, hr2.1 r.toNat (by omega)], by rw [e9]; exact ⟨hN, ⟨_, _, _, h559, htw9⟩, (hX.keep ((hf9 56 (by omega) (by omega) (by omega) (by omega)).trans (lk_ne (by omega) rfl))), (hT.keep ((hf9 57 (by omega) (by omega) (by omega) (by omega)).trans (lk_ne (by omega) rfl))), hgd, (hR8.keep ((hf9 58 (by omega) (by omega) (by omega) (by omega)).trans (lk_ne (by omega) rfl))), (hR9.keep ((hf9 59 (by omega) (by omega) (by omega) (by omega)).trans (lk_ne (by omega) rfl))), (hO.keep ((hf9 60 (by omega) (by omega) (by omega) (by omega)).trans (lk_ne (by omega) rfl))), (hH.keep ((hf9 61 (by omega) (by omega) (by omega) (by omega)).trans (lk_ne (by omega) rfl))), (hV.keep ((hf9 62 (by omega) (by omega) (by omega) (by omega)).trans (lk_ne (by omega) rfl)) ((hf9 63 (by omega) (by omega) (by omega) (by omega)).trans (lk_ne (by omega) rfl))), (hB.keep ((hf9 64 (by omega) (by omega) (by omega) (by omega)).trans (lk_ne (by omega) rfl)) ((hf9 65 (by omega) (by omega) (by omega) (by omega)).trans (lk_ne (by omega) rfl))), (hSc.keep ((hf9 66 (by omega) (by omega) (by omega) (by omega)).trans (lk_ne (by omega) rfl)) ((hf9 67 (by omega) (by omega) (by omega) (by omega)).trans (lk_ne (by omega) rfl)) ((hf9 68 (by omega) (by omega) (by omega) (by omega)).trans (lk_ne (by omega) rfl))), hWd9⟩, (fun k n0 => ((hf9 k (by omega) (by omega) (by omega) (by omega)).trans (lk_ne (by omega) rfl)))⟩
    · refine A_bipush (q := 29) X dX9_machineSteps_27 (by decide) rfl ?_
      have e9 : fMSteps r m (tm, x, hs, s0, s1, o, sd) = (-2, (tm, x, hs, s0, s1, o, sd)) := by unfold fMSteps; rw [if_neg (by omega)]
      exact A_ireturn X dX9_machineSteps_29 ⟨by rw [e9], by rw [e9]; exact ⟨hN, ⟨_, _, _, lk_eq, htw⟩, (hX.keep (lk_ne (by omega) rfl)), (hT.keep (lk_ne (by omega) rfl)), hgd, (hR8.keep (lk_ne (by omega) rfl)), (hR9.keep (lk_ne (by omega) rfl)), (hO.keep (lk_ne (by omega) rfl)), (hH.keep (lk_ne (by omega) rfl)), (hV.keep (lk_ne (by omega) rfl) (lk_ne (by omega) rfl)), (hB.keep (lk_ne (by omega) rfl) (lk_ne (by omega) rfl)), (hSc.keep (lk_ne (by omega) rfl) (lk_ne (by omega) rfl) (lk_ne (by omega) rfl)), (hWd.keep (lk_ne (by omega) rfl) (lk_ne (by omega) rfl) (lk_ne (by omega) rfl))⟩, (fun k n0 => (lk_ne (by omega) rfl))⟩
set_option maxRecDepth 100000 in
set_option maxHeartbeats 4000000 in
theorem c_X9_machinePeak {l : Launch} {G : Gm} {c : HP} {tm x : List Int} {hs : List (List Int)} {s0 s1 : List Int} {o : List (Int × Int)} {sd : Int64} {m : Int} (hG : injG G) (hmr : rg m) (hW : WM G c (tm, x, hs, s0, s1, o, sd)) : AMet l G yX9_machinePeak cX9_machinePeak 2 ((some .int)) (rmR 5 132) [.ref (G.1 55), .int (zI m)] c (Qi (fun v c' => v = zI (fMPeak m (tm, x, hs, s0, s1, o, sd)).1 ∧ WM G c' (fMPeak m (tm, x, hs, s0, s1, o, sd)).2 ∧ (∀ k, k < 55 → c' k = c k))) := by
  refine AMet.of (vl := [some (.ref (G.1 55)), some (.int (zI m))]) (by decide) hG (Nat.le_of_ble_eq_true rfl) rfl ?_
  intro K X
  have X : Fx l G K cX9_machinePeak 2 RX9 ((some .int)) (rmR 5 132) := X
  obtain ⟨hN, ⟨th, tw, pk, h55, htw⟩, hX, hT, hgd, hR8, hR9, hO, hH, hV, hB, hSc, hWd⟩ := hW
  dsimp only at h55 hX hT hgd hH hV hB
  have hl0 := hT.len
  have hxl := hX.1
  have hhl := hH.1
  have hol := hB.1
  refine A_aload_n (q := 1) X dX9_machinePeak_0 rfl rfl ?_
  refine A_iconst (q := 2) X dX9_machinePeak_1 rfl ?_
  refine A_putf (q := 5) X pX9_59 dX9_machinePeak_2 (by omega) h55 (Nat.le_of_ble_eq_true rfl) rfl rfl rfl ?_
  refine A_iload_n (q := 6) X dX9_machinePeak_5 rfl rfl ?_
  refine A_i2l (q := 7) X dX9_machinePeak_6 rfl ?_
  refine A_lconst (q := 8) (v := 0) X dX9_machinePeak_7 rfl rfl ?_
  refine A_lconst (q := 9) (v := 1) X dX9_machinePeak_8 rfl rfl ?_
  refine A_S3i (q := 12) X (c_inZ (a := m) (b := 0) (d := 1) hG rfl (by decide) (by decide) (by omega) (by omega) (by omega)) mX9_in kX9_114 dX9_machinePeak_9 (by decide) (Nat.le_of_ble_eq_true rfl) rfl (fun vq_3 cq_2 hq_1 => ?_)
  obtain ⟨rfl, hq_1⟩ := hq_1
  obtain rfl := hq_1.symm
  refine A_bne (q := 15) (t := 18) X dX9_machinePeak_12 rfl rfl (fun hb12 => ?_) (fun hb12 => ?_)
  · refine A_aload_n (q := 19) X dX9_machinePeak_18 rfl rfl ?_
    refine A_iload_n (q := 20) X dX9_machinePeak_19 rfl rfl ?_
    refine A_iconst (q := 21) X dX9_machinePeak_20 rfl ?_
    refine A_icmp_ne (q := 24) (t := 28) X dX9_machinePeak_21 (by omega) (by decide) rfl rfl (fun hb21 => ?_) (fun hb21 => ?_)
    · refine A_iconst (q := 29) X dX9_machinePeak_28 rfl ?_
      rw [show zI 0 = zI (if m = 1 then 1 else 0) from zb0 (by omega)]
      refine A_V1i (q := 32) X (c_X9_machine (mg := (m = 1)) (l0 := tm) hG hN (lk_eq) (hT.keep (lk_ne (by omega) rfl)) hgd (hWd.keep (lk_ne (by omega) rfl) (lk_ne (by omega) rfl) (lk_ne (by omega) rfl))) mX9_machine kX9_191 dX9_machinePeak_29 (by omega) lk_eq rfl (by decide) (Nat.le_of_ble_eq_true rfl) rfl (fun vq_6 cq_5 hq_4 => ?_)
      obtain ⟨rfl, ⟨tw9, pk9, ap9, h559, htw9, h719, hr9⟩, h699, h709, hf9⟩ := hq_4
      have hWd9 : Wd9 G cq_5 := ⟨h699, h709, ⟨_, h719⟩⟩
      refine A_beq (q := 35) (t := 42) X dX9_machinePeak_32 rfl rfl (fun hb32 => ?_) (fun hb32 => ?_)
      · refine A_bipush (q := 44) X dX9_machinePeak_42 (by decide) rfl ?_
        have hno : (mrun (m = 1) 600 tm (fun _ => 0) ((tm.length : Nat) : Int)) = none := by cases h : (mrun (m = 1) 600 tm (fun _ => 0) ((tm.length : Nat) : Int)) with | none => rfl | some q => exact absurd (by rw [h]; rfl) hb32
        have e9 : fMPeak m (tm, x, hs, s0, s1, o, sd) = (-9, (tm, x, hs, s0, s1, o, sd)) := by unfold fMPeak; rw [if_pos (by omega), hno]
        exact A_ireturn X dX9_machinePeak_44 ⟨by rw [e9], by rw [e9]; exact ⟨hN, ⟨_, _, _, h559, htw9⟩, (hX.keep ((hf9 56 (by omega) (by omega) (by omega) (by omega)).trans (lk_ne (by omega) rfl))), (hT.keep ((hf9 57 (by omega) (by omega) (by omega) (by omega)).trans (lk_ne (by omega) rfl))), hgd, (hR8.keep ((hf9 58 (by omega) (by omega) (by omega) (by omega)).trans (lk_ne (by omega) rfl))), (hR9.keep ((hf9 59 (by omega) (by omega) (by omega) (by omega)).trans (lk_ne (by omega) rfl))), (hO.keep ((hf9 60 (by omega) (by omega) (by omega) (by omega)).trans (lk_ne (by omega) rfl))), (hH.keep ((hf9 61 (by omega) (by omega) (by omega) (by omega)).trans (lk_ne (by omega) rfl))), (hV.keep ((hf9 62 (by omega) (by omega) (by omega) (by omega)).trans (lk_ne (by omega) rfl)) ((hf9 63 (by omega) (by omega) (by omega) (by omega)).trans (lk_ne (by omega) rfl))), (hB.keep ((hf9 64 (by omega) (by omega) (by omega) (by omega)).trans (lk_ne (by omega) rfl)) ((hf9 65 (by omega) (by omega) (by omega) (by omega)).trans (lk_ne (by omega) rfl))), (hSc.keep ((hf9 66 (by omega) (by omega) (by omega) (by omega)).trans (lk_ne (by omega) rfl)) ((hf9 67 (by omega) (by omega) (by omega) (by omega)).trans (lk_ne (by omega) rfl)) ((hf9 68 (by omega) (by omega) (by omega) (by omega)).trans (lk_ne (by omega) rfl))), hWd9⟩, (fun k n0 => ((hf9 k (by omega) (by omega) (by omega) (by omega)).trans (lk_ne (by omega) rfl)))⟩
      · obtain ⟨q9, hq9⟩ : ∃ q9, (mrun (m = 1) 600 tm (fun _ => 0) ((tm.length : Nat) : Int)) = some q9 := Option.isSome_iff_exists.mp hb32
        have hr2 := hr9 q9 hq9
        refine A_aload_n (q := 36) X dX9_machinePeak_35 rfl rfl ?_
        refine A_getf (q := 39) X fX9_179 dX9_machinePeak_36 (by omega) h559 rfl rfl ?_
        refine A_goto (q := 44) X dX9_machinePeak_39 rfl ?_
        have e9 : fMPeak m (tm, x, hs, s0, s1, o, sd) = (q9.2, (tm, x, hs, s0, s1, o, sd)) := by unfold fMPeak; rw [if_pos (by omega), hq9]
        exact A_ireturn X dX9_machinePeak_44 ⟨by rw [e9, hr2.2], by rw [e9]; exact ⟨hN, ⟨_, _, _, h559, htw9⟩, (hX.keep ((hf9 56 (by omega) (by omega) (by omega) (by omega)).trans (lk_ne (by omega) rfl))), (hT.keep ((hf9 57 (by omega) (by omega) (by omega) (by omega)).trans (lk_ne (by omega) rfl))), hgd, (hR8.keep ((hf9 58 (by omega) (by omega) (by omega) (by omega)).trans (lk_ne (by omega) rfl))), (hR9.keep ((hf9 59 (by omega) (by omega) (by omega) (by omega)).trans (lk_ne (by omega) rfl))), (hO.keep ((hf9 60 (by omega) (by omega) (by omega) (by omega)).trans (lk_ne (by omega) rfl))), (hH.keep ((hf9 61 (by omega) (by omega) (by omega) (by omega)).trans (lk_ne (by omega) rfl))), (hV.keep ((hf9 62 (by omega) (by omega) (by omega) (by omega)).trans (lk_ne (by omega) rfl)) ((hf9 63 (by omega) (by omega) (by omega) (by omega)).trans (lk_ne (by omega) rfl))), (hB.keep ((hf9 64 (by omega) (by omega) (by omega) (by omega)).trans (lk_ne (by omega) rfl)) ((hf9 65 (by omega) (by omega) (by omega) (by omega)).trans (lk_ne (by omega) rfl))), (hSc.keep ((hf9 66 (by omega) (by omega) (by omega) (by omega)).trans (lk_ne (by omega) rfl)) ((hf9 67 (by omega) (by omega) (by omega) (by omega)).trans (lk_ne (by omega) rfl)) ((hf9 68 (by omega) (by omega) (by omega) (by omega)).trans (lk_ne (by omega) rfl))), hWd9⟩, (fun k n0 => ((hf9 k (by omega) (by omega) (by omega) (by omega)).trans (lk_ne (by omega) rfl)))⟩
    · refine A_iconst (q := 25) X dX9_machinePeak_24 rfl ?_
      refine A_goto (q := 29) X dX9_machinePeak_25 rfl ?_
      rw [show zI 1 = zI (if m = 1 then 1 else 0) from zb1 (by omega)]
      refine A_V1i (q := 32) X (c_X9_machine (mg := (m = 1)) (l0 := tm) hG hN (lk_eq) (hT.keep (lk_ne (by omega) rfl)) hgd (hWd.keep (lk_ne (by omega) rfl) (lk_ne (by omega) rfl) (lk_ne (by omega) rfl))) mX9_machine kX9_191 dX9_machinePeak_29 (by omega) lk_eq rfl (by decide) (Nat.le_of_ble_eq_true rfl) rfl (fun vq_9 cq_8 hq_7 => ?_)
      obtain ⟨rfl, ⟨tw9, pk9, ap9, h559, htw9, h719, hr9⟩, h699, h709, hf9⟩ := hq_7
      have hWd9 : Wd9 G cq_8 := ⟨h699, h709, ⟨_, h719⟩⟩
      refine A_beq (q := 35) (t := 42) X dX9_machinePeak_32 rfl rfl (fun hb32 => ?_) (fun hb32 => ?_)
      · refine A_bipush (q := 44) X dX9_machinePeak_42 (by decide) rfl ?_
        have hno : (mrun (m = 1) 600 tm (fun _ => 0) ((tm.length : Nat) : Int)) = none := by cases h : (mrun (m = 1) 600 tm (fun _ => 0) ((tm.length : Nat) : Int)) with | none => rfl | some q => exact absurd (by rw [h]; rfl) hb32
        have e9 : fMPeak m (tm, x, hs, s0, s1, o, sd) = (-9, (tm, x, hs, s0, s1, o, sd)) := by unfold fMPeak; rw [if_pos (by omega), hno]
        exact A_ireturn X dX9_machinePeak_44 ⟨by rw [e9], by rw [e9]; exact ⟨hN, ⟨_, _, _, h559, htw9⟩, (hX.keep ((hf9 56 (by omega) (by omega) (by omega) (by omega)).trans (lk_ne (by omega) rfl))), (hT.keep ((hf9 57 (by omega) (by omega) (by omega) (by omega)).trans (lk_ne (by omega) rfl))), hgd, (hR8.keep ((hf9 58 (by omega) (by omega) (by omega) (by omega)).trans (lk_ne (by omega) rfl))), (hR9.keep ((hf9 59 (by omega) (by omega) (by omega) (by omega)).trans (lk_ne (by omega) rfl))), (hO.keep ((hf9 60 (by omega) (by omega) (by omega) (by omega)).trans (lk_ne (by omega) rfl))), (hH.keep ((hf9 61 (by omega) (by omega) (by omega) (by omega)).trans (lk_ne (by omega) rfl))), (hV.keep ((hf9 62 (by omega) (by omega) (by omega) (by omega)).trans (lk_ne (by omega) rfl)) ((hf9 63 (by omega) (by omega) (by omega) (by omega)).trans (lk_ne (by omega) rfl))), (hB.keep ((hf9 64 (by omega) (by omega) (by omega) (by omega)).trans (lk_ne (by omega) rfl)) ((hf9 65 (by omega) (by omega) (by omega) (by omega)).trans (lk_ne (by omega) rfl))), (hSc.keep ((hf9 66 (by omega) (by omega) (by omega) (by omega)).trans (lk_ne (by omega) rfl)) ((hf9 67 (by omega) (by omega) (by omega) (by omega)).trans (lk_ne (by omega) rfl)) ((hf9 68 (by omega) (by omega) (by omega) (by omega)).trans (lk_ne (by omega) rfl))), hWd9⟩, (fun k n0 => ((hf9 k (by omega) (by omega) (by omega) (by omega)).trans (lk_ne (by omega) rfl)))⟩
      · obtain ⟨q9, hq9⟩ : ∃ q9, (mrun (m = 1) 600 tm (fun _ => 0) ((tm.length : Nat) : Int)) = some q9 := Option.isSome_iff_exists.mp hb32
        have hr2 := hr9 q9 hq9
        refine A_aload_n (q := 36) X dX9_machinePeak_35 rfl rfl ?_
        refine A_getf (q := 39) X fX9_179 dX9_machinePeak_36 (by omega) h559 rfl rfl ?_
        refine A_goto (q := 44) X dX9_machinePeak_39 rfl ?_
        have e9 : fMPeak m (tm, x, hs, s0, s1, o, sd) = (q9.2, (tm, x, hs, s0, s1, o, sd)) := by unfold fMPeak; rw [if_pos (by omega), hq9]
        exact A_ireturn X dX9_machinePeak_44 ⟨by rw [e9, hr2.2], by rw [e9]; exact ⟨hN, ⟨_, _, _, h559, htw9⟩, (hX.keep ((hf9 56 (by omega) (by omega) (by omega) (by omega)).trans (lk_ne (by omega) rfl))), (hT.keep ((hf9 57 (by omega) (by omega) (by omega) (by omega)).trans (lk_ne (by omega) rfl))), hgd, (hR8.keep ((hf9 58 (by omega) (by omega) (by omega) (by omega)).trans (lk_ne (by omega) rfl))), (hR9.keep ((hf9 59 (by omega) (by omega) (by omega) (by omega)).trans (lk_ne (by omega) rfl))), (hO.keep ((hf9 60 (by omega) (by omega) (by omega) (by omega)).trans (lk_ne (by omega) rfl))), (hH.keep ((hf9 61 (by omega) (by omega) (by omega) (by omega)).trans (lk_ne (by omega) rfl))), (hV.keep ((hf9 62 (by omega) (by omega) (by omega) (by omega)).trans (lk_ne (by omega) rfl)) ((hf9 63 (by omega) (by omega) (by omega) (by omega)).trans (lk_ne (by omega) rfl))), (hB.keep ((hf9 64 (by omega) (by omega) (by omega) (by omega)).trans (lk_ne (by omega) rfl)) ((hf9 65 (by omega) (by omega) (by omega) (by omega)).trans (lk_ne (by omega) rfl))), (hSc.keep ((hf9 66 (by omega) (by omega) (by omega) (by omega)).trans (lk_ne (by omega) rfl)) ((hf9 67 (by omega) (by omega) (by omega) (by omega)).trans (lk_ne (by omega) rfl)) ((hf9 68 (by omega) (by omega) (by omega) (by omega)).trans (lk_ne (by omega) rfl))), hWd9⟩, (fun k n0 => ((hf9 k (by omega) (by omega) (by omega) (by omega)).trans (lk_ne (by omega) rfl)))⟩
  · refine A_bipush (q := 17) X dX9_machinePeak_15 (by decide) rfl ?_
    have e9 : fMPeak m (tm, x, hs, s0, s1, o, sd) = (-2, (tm, x, hs, s0, s1, o, sd)) := by unfold fMPeak; rw [if_neg (by omega)]
    exact A_ireturn X dX9_machinePeak_17 ⟨by rw [e9], by rw [e9]; exact ⟨hN, ⟨_, _, _, lk_eq, htw⟩, (hX.keep (lk_ne (by omega) rfl)), (hT.keep (lk_ne (by omega) rfl)), hgd, (hR8.keep (lk_ne (by omega) rfl)), (hR9.keep (lk_ne (by omega) rfl)), (hO.keep (lk_ne (by omega) rfl)), (hH.keep (lk_ne (by omega) rfl)), (hV.keep (lk_ne (by omega) rfl) (lk_ne (by omega) rfl)), (hB.keep (lk_ne (by omega) rfl) (lk_ne (by omega) rfl)), (hSc.keep (lk_ne (by omega) rfl) (lk_ne (by omega) rfl) (lk_ne (by omega) rfl)), (hWd.keep (lk_ne (by omega) rfl) (lk_ne (by omega) rfl) (lk_ne (by omega) rfl))⟩, (fun k n0 => (lk_ne (by omega) rfl))⟩
