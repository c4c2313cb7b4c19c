/-! THE MODEL, eighth: remembered terms -/
def Hr (F : Nat → Int) (j : Nat) (q : List Int) : Prop := q.length ≤ 200 ∧ F (201 * j + 200) = ((q.length : Nat) : Int) ∧ ∀ k, k < q.length → F (201 * j + k) = q.getD k 0
def Hm (F : Nat → Int) : List (List Int) → Prop
  | [] => True
  | q :: hs => Hr F hs.length q ∧ Hm F hs
theorem Hr_of {F H : Nat → Int} {j i : Nat} {q : List Int} (h : Hr F j q) (e : ∀ k, k ≤ 200 → H (201 * i + k) = F (201 * j + k)) : Hr H i q :=
  ⟨h.1, (e 200 (by omega)).trans h.2.1, fun k hk => (e k (by have := h.1; omega)).trans (h.2.2 k hk)⟩
theorem Hm_of {F H : Nat → Int} : ∀ {hs : List (List Int)}, Hm F hs → (∀ k, k < 201 * hs.length → H k = F k) → Hm H hs
  | [], _, _ => trivial
  | q :: hs, h, e => by
    simp only [List.length_cons] at e
    exact ⟨Hr_of h.1 (fun k hk => e _ (by omega)), Hm_of h.2 (fun k hk => e k (by omega))⟩
theorem Hm_shift {F H : Nat → Int} (e : ∀ k, k < 2613 → H k = F (k + 201)) : ∀ {hs : List (List Int)} {n : Nat}, hs.length = n + 1 → n ≤ 13 → Hm F hs → Hm H (hs.take n)
  | [], n, hn, _, _ => by cases hn
  | q :: hs, 0, _, _, _ => trivial
  | q :: hs, m + 1, hn, hm, h => by
    simp only [List.length_cons] at hn
    have hl : (hs.take m).length = m := by rw [List.length_take]; omega
    have hn' : hs.length = m + 1 := by omega
    show Hr H (hs.take m).length q ∧ Hm H (hs.take m)
    refine ⟨?_, Hm_shift e (by omega) (by omega) h.2⟩
    rw [hl]
    refine Hr_of h.1 (fun k hk => ?_)
    rw [e _ (by omega), hn']
    exact congrArg F (by omega)
theorem psh_eq (hs : List (List Int)) (t : List Int) : psh hs t = t :: hs.take 13 := rfl
set_option maxRecDepth 100000 in
set_option maxHeartbeats 4000000 in
theorem lp2_remember {l : Launch} {G : Gm} {K : Cx} {c0 : HP} {t : List Int} {gs : List (List Int)} {T F : Nat → Int} {th ts obn tw pk : Int} {sd : Int64} (X : Fx l G K cX9_remember 2 RX9 (none) (rmR 0 0)) (hG : injG G) (hN : G.2.1 = 72) (h057 : c0 57 = aI G 201 T) (hl0 : t.length ≤ 200) (hS : T 200 = ((t.length : Nat) : Int)) (hF : ∀ k, k < t.length → T k = t.getD k 0) (hg : gs.length ≤ 13) (hM : Hm F gs) : ∀ (n : Nat) (i : Nat) (H : Nat → Int) (c : HP), 201 - i < n → i ≤ 201 → c 55 = ob9 G th ts ((gs.length : Nat) : Int) obn sd tw pk → c 61 = aI G 2814 H → (∀ k, k < i → H (201 * gs.length + k) = T k) → (∀ k, k < 201 * gs.length → H k = F k) → (∀ k, k ≠ 55 → k ≠ 61 → c k = c0 k) → AW G K (Qv (fun c' => c' 55 = ob9 G th ts (((gs.length + 1 : Nat)) : Int) obn sd tw pk ∧ (∃ H', c' 61 = aI G 2814 H' ∧ Hm H' (t :: gs)) ∧ (∀ k, k ≠ 55 → k ≠ 61 → c' k = c0 k))) 52 (mkL [some (.ref (G.1 55)), some (.int (zI ((i : Nat) : Int)))]) [] c := by
  intro n
  induction n with
  | zero => intro i H c hmz; exact absurd hmz (Nat.not_lt_zero _)
  | succ n ih =>
    intro i H c hmz hi h55 h61 hH hL hf0
    have h57 := (hf0 57 (by decide) (by decide)).trans h057
    refine A_iload_n (q := 53) X dX9_remember_52 rfl rfl ?_
    refine A_sipush (q := 56) X dX9_remember_53 (by decide) rfl ?_
    refine A_icmp_ge (q := 59) (t := 86) X dX9_remember_56 (by omega) (by decide) rfl rfl (fun hb56 => ?_) (fun hb56 => ?_)
    · refine A_aload_n (q := 87) X dX9_remember_86 rfl rfl ?_
      refine A_dup (q := 88) X dX9_remember_87 rfl rfl ?_
      refine A_getf (q := 91) X fX9_132 dX9_remember_88 (by omega) h55 rfl rfl ?_
      refine A_iconst (q := 92) X dX9_remember_91 rfl ?_
      refine A_iadd (q := 93) X dX9_remember_92 rfl ?_
      refine A_putf (q := 96) X pX9_132 dX9_remember_93 (by omega) h55 (Nat.le_of_ble_eq_true rfl) rfl rfl rfl ?_
      refine A_return X dX9_remember_96 ⟨?_, ⟨H, ((lk_ne (by omega) h61)), ⟨hl0, (hH 200 (by omega)).trans hS, fun k hk => (hH k (by omega)).trans (hF k hk)⟩, Hm_of hM (fun k hk => hL k hk)⟩, (fun k n0 n1 => (lk_ne (by omega) (hf0 k n0 n1)))⟩
      rw [show (((gs.length + 1 : Nat)) : Int) = ((gs.length : Nat) : Int) + 1 by omega]
      exact lk_eq
    · refine A_aload_n (q := 60) X dX9_remember_59 rfl rfl ?_
      refine A_getf (q := 63) X fX9_25 dX9_remember_60 (by omega) h55 rfl rfl ?_
      refine A_sipush (q := 66) X dX9_remember_63 (by decide) rfl ?_
      refine A_aload_n (q := 67) X dX9_remember_66 rfl rfl ?_
      refine A_getf (q := 70) X fX9_132 dX9_remember_67 (by omega) h55 rfl rfl ?_
      refine A_imul (q := 71) X dX9_remember_70 rfl ?_
      refine A_iload_n (q := 72) X dX9_remember_71 rfl rfl ?_
      refine A_iadd (q := 73) X dX9_remember_72 rfl ?_
      refine A_aload_n (q := 74) X dX9_remember_73 rfl rfl ?_
      refine A_getf (q := 77) X fX9_13 dX9_remember_74 (by omega) h55 rfl rfl ?_
      refine A_iload_n (q := 78) X dX9_remember_77 rfl rfl ?_
      refine A_iald (q := 79) (h := 57) (i) X dX9_remember_78 (by omega) h57 (by omega) (by omega) (by decide) rfl ?_
      refine A_iast (q := 80) (h := 61) ((201 * (gs.length)) + (i)) X dX9_remember_79 (by omega) h61 (by omega) (by omega) (by decide) rfl ?_
      refine A_iinc (q := 83) X dX9_remember_80 rfl (by decide) (okP_s rfl rfl) rfl ?_
      refine A_goto (q := 52) X dX9_remember_83 rfl ?_
      exact AW.loc (sS rfl (sZ rfl (by omega) sE)) (ih (i + 1) (va_up H (201 * gs.length + i) (T i)) _ (by omega) (by omega) (lk_ne (by decide) h55) lk_eq (fun k hk => by by_cases e : k = i; (subst e; exact lk_eq); exact lk_ne (by omega) (hH k (by omega))) (fun k hk => lk_ne (by omega) (hL k hk)) (fun k n0 n1 => lk_ne n1 (hf0 k n0 n1)))
set_option maxRecDepth 100000 in
set_option maxHeartbeats 4000000 in
theorem lp1_remember {l : Launch} {G : Gm} {K : Cx} {c0 : HP} {t : List Int} {hs : List (List Int)} {T F : Nat → Int} {th ts obn tw pk : Int} {sd : Int64} (X : Fx l G K cX9_remember 2 RX9 (none) (rmR 0 0)) (hG : injG G) (hN : G.2.1 = 72) (h057 : c0 57 = aI G 201 T) (hl0 : t.length ≤ 200) (hS : T 200 = ((t.length : Nat) : Int)) (hF : ∀ k, k < t.length → T k = t.getD k 0) (hl14 : hs.length = 14) (hM : Hm F hs) : ∀ (n : Nat) (i : Nat) (H : Nat → Int) (c : HP), 2613 - i < n → i ≤ 2613 → c 55 = ob9 G th ts ((14 : Nat) : Int) obn sd tw pk → c 61 = aI G 2814 H → (∀ k, k < i → H k = F (k + 201)) → (∀ k, i ≤ k → H k = F k) → (∀ k, k ≠ 55 → k ≠ 61 → c k = c0 k) → AW G K (Qv (fun c' => c' 55 = ob9 G th ts ((((hs.take 13).length + 1 : Nat)) : Int) obn sd tw pk ∧ (∃ H', c' 61 = aI G 2814 H' ∧ Hm H' (t :: hs.take 13)) ∧ (∀ k, k ≠ 55 → k ≠ 61 → c' k = c0 k))) 11 (mkL [some (.ref (G.1 55)), some (.int (zI ((i : Nat) : Int)))]) [] c := by
  intro n
  induction n with
  | zero => intro i H c hmz; exact absurd hmz (Nat.not_lt_zero _)
  | succ n ih =>
    intro i H c hmz hi h55 h61 hH hL hf0
    refine A_iload_n (q := 12) X dX9_remember_11 rfl rfl ?_
    refine A_sipush (q := 15) X dX9_remember_12 (by decide) rfl ?_
    refine A_icmp_ge (q := 18) (t := 40) X dX9_remember_15 (by omega) (by decide) rfl rfl (fun hb15 => ?_) (fun hb15 => ?_)
    · refine A_aload_n (q := 41) X dX9_remember_40 rfl rfl ?_
      refine A_dup (q := 42) X dX9_remember_41 rfl rfl ?_
      refine A_getf (q := 45) X fX9_132 dX9_remember_42 (by omega) h55 rfl rfl ?_
      refine A_iconst (q := 46) X dX9_remember_45 rfl ?_
      refine A_isub (q := 47) X dX9_remember_46 rfl ?_
      refine A_putf (q := 50) X pX9_132 dX9_remember_47 (by omega) h55 (Nat.le_of_ble_eq_true rfl) rfl rfl rfl ?_
      refine A_iconst (q := 51) X dX9_remember_50 rfl ?_
      refine A_istore_n (q := 52) X dX9_remember_51 (by decide) (okP_s rfl rfl) rfl ?_
      have h13 : (hs.take 13).length = 13 := by rw [List.length_take]; omega
      exact AW.loc (sS rfl (sZ rfl rfl sE)) (lp2_remember (gs := hs.take 13) (F := H) X hG hN h057 hl0 hS hF (by omega) (Hm_shift (fun k hk => hH k (by omega)) (n := 13) (by omega) (by decide) hM) _ 0 H _ (Nat.lt_succ_self _) (Nat.zero_le _) (by rw [show (((hs.take 13).length : Nat) : Int) = ((14 : Nat) : Int) - 1 by omega]; exact lk_eq) (lk_ne (by decide) h61) (fun k hk => absurd hk (Nat.not_lt_zero _)) (fun _ _ => rfl) (fun k n0 n1 => lk_ne n0 (hf0 k n0 n1)))
    · refine A_aload_n (q := 19) X dX9_remember_18 rfl rfl ?_
      refine A_getf (q := 22) X fX9_25 dX9_remember_19 (by omega) h55 rfl rfl ?_
      refine A_iload_n (q := 23) X dX9_remember_22 rfl rfl ?_
      refine A_aload_n (q := 24) X dX9_remember_23 rfl rfl ?_
      refine A_getf (q := 27) X fX9_25 dX9_remember_24 (by omega) h55 rfl rfl ?_
      refine A_iload_n (q := 28) X dX9_remember_27 rfl rfl ?_
      refine A_sipush (q := 31) X dX9_remember_28 (by decide) rfl ?_
      refine A_iadd (q := 32) X dX9_remember_31 rfl ?_
      refine A_iald (q := 33) (h := 61) ((i) + 201) X dX9_remember_32 (by omega) h61 (by omega) (by omega) (by decide) rfl ?_
      refine A_iast (q := 34) (h := 61) (i) X dX9_remember_33 (by omega) h61 (by omega) (by omega) (by decide) rfl ?_
      refine A_iinc (q := 37) X dX9_remember_34 rfl (by decide) (okP_s rfl rfl) rfl ?_
      refine A_goto (q := 11) X dX9_remember_37 rfl ?_
      exact AW.loc (sS rfl (sZ rfl (by omega) sE)) (ih (i + 1) (va_up H i (F (i + 201))) _ (by omega) (by omega) (lk_ne (by decide) h55) (by rw [← hL (i + 201) (by omega)]; exact lk_eq) (fun k hk => by by_cases e : k = i; (subst e; exact lk_eq); exact lk_ne e (hH k (by omega))) (fun k hk => lk_ne (by omega) (hL k (by omega))) (fun k n0 n1 => lk_ne n1 (hf0 k n0 n1)))
set_option maxRecDepth 100000 in
set_option maxHeartbeats 4000000 in
theorem c_X9_remember {l : Launch} {G : Gm} {c : HP} {t : List Int} {hs : List (List Int)} {F : Nat → Int} {th ts obn tw pk : Int} {sd : Int64} (hG : injG G) (hN : G.2.1 = 72) (h55 : c 55 = ob9 G th ts ((hs.length : Nat) : Int) obn sd tw pk) (hT : Mt G c 57 t) (h61 : c 61 = aI G 2814 F) (hM : Hm F hs) (hl : hs.length ≤ 14) : AMet l G yX9_remember cX9_remember 2 (none) (rmR 0 0) [.ref (G.1 55)] c (Qv (fun c' => c' 55 = ob9 G th ts ((((psh hs t).length : Nat)) : Int) obn sd tw pk ∧ (∃ H', c' 61 = aI G 2814 H' ∧ Hm H' (psh hs t)) ∧ (∀ k, k ≠ 55 → k ≠ 61 → c' k = c k))) := by
  refine AMet.of (vl := [some (.ref (G.1 55))]) (by decide) hG (Nat.le_of_ble_eq_true rfl) rfl ?_
  intro K X
  have X : Fx l G K cX9_remember 2 RX9 (none) (rmR 0 0) := X
  obtain ⟨ha0, hl0, T, h57, hS, hF⟩ := hT
  rw [psh_eq, List.length_cons]
  refine A_aload_n (q := 1) X dX9_remember_0 rfl rfl ?_
  refine A_getf (q := 4) X fX9_132 dX9_remember_1 (by omega) h55 rfl rfl ?_
  refine A_bipush (q := 6) X dX9_remember_4 (by decide) rfl ?_
  refine A_icmp_ne (q := 9) (t := 50) X dX9_remember_6 (by omega) (by decide) rfl rfl (fun hb6 => ?_) (fun hb6 => ?_)
  · refine A_iconst (q := 51) X dX9_remember_50 rfl ?_
    refine A_istore_n (q := 52) X dX9_remember_51 (by decide) (okP_s rfl rfl) rfl ?_
    have e13 : hs.take 13 = hs := List.take_of_length_le (by omega)
    exact AW.loc (sS rfl (sZ rfl rfl sE)) (lp2_remember (gs := hs.take 13) (F := F) X hG hN h57 hl0 hS hF (by rw [e13]; omega) (by rw [e13]; exact hM) _ 0 F c (Nat.lt_succ_self _) (Nat.zero_le _) (by rw [e13]; exact h55) h61 (fun k hk => absurd hk (Nat.not_lt_zero _)) (fun _ _ => rfl) (fun _ _ _ => rfl))
  · refine A_iconst (q := 10) X dX9_remember_9 rfl ?_
    refine A_istore_n (q := 11) X dX9_remember_10 (by decide) (okP_s rfl rfl) rfl ?_
    have h14 : hs.length = 14 := by omega
    rw [h14] at h55
    exact AW.loc (sS rfl (sZ rfl rfl sE)) (lp1_remember X hG hN h57 hl0 hS hF h14 hM _ 0 F c (Nat.lt_succ_self _) (Nat.zero_le _) h55 h61 (fun k hk => absurd hk (Nat.not_lt_zero _)) (fun _ _ => rfl) (fun _ _ _ => rfl))
