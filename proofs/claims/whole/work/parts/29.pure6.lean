/-! PURE 6: the machine's rules keep rows good -/
def rlC (l : List Int) (p : Nat) (r : Int) : Prop := p + 1 < l.length ∧ ((r = 0 ∧ l.getD p 0 = 1000 ∧ l.getD (p + 1) 0 = 1001) ∨ (r = 1 ∧ 1000000 ≤ l.getD p 0 ∧ l.getD (p + 1) 0 = 1000) ∨ (r = 2 ∧ 1000000 ≤ l.getD p 0 ∧ l.getD (p + 1) 0 = 1001) ∨ (r = 3 ∧ 1000000 ≤ l.getD p 0 ∧ 0 ≤ l.getD (p + 1) 0 ∧ l.getD (p + 1) 0 < 310) ∨ (r = 4 ∧ 1000000 ≤ l.getD p 0 ∧ 1000000 ≤ l.getD (p + 1) 0))
theorem tkE_of {t : Int} (h : tokB 310 t) : (tkE t = 1000 → t = 1000) ∧ (tkE t = 1001 → t = 1001) ∧ (tkE t = 1002 → 1000000 ≤ t) ∧ (tkE t ≠ 1000 → tkE t ≠ 1001 → tkE t ≠ 1002 → 0 ≤ t ∧ t < 310) := by
  unfold tkE
  rcases h with e | e | ⟨e1, e2, e3⟩ | ⟨e1, e2⟩
  · rw [e]; decide
  · rw [e]; decide
  · rw [if_pos e1]; exact ⟨fun h => by omega, fun h => by omega, fun _ => e1, fun _ _ h => by omega⟩
  · rw [if_neg (by omega)]; exact ⟨fun h => h, fun h => h, fun h => by omega, fun _ _ _ => by omega⟩
theorem rlZ_cases {l : List Int} {p : Nat} {mg : Prop} [Decidable mg] (h : XG l) (hp : p < l.length) (hr : rlZ l (p : Nat) mg ≠ -9) : rlC l p (rlZ l (p : Nat) mg) := by
  have b0 := tkE_of (h.xb _ (mem_getD hp))
  have e0 := tkA_in (l := l) (k := p) rfl hp
  have nx : tkA l (p : Nat) = 1000 ∨ tkA l (p : Nat) = 1002 → p + 1 < l.length := fun q => h.next hp (by
    unfold prt
    rw [e0] at q
    rcases q with q | q
    · rw [b0.1 q]; decide
    · rw [if_pos (b0.2.2.1 q)]; omega)
  have e1 : ∀ hq : p + 1 < l.length, tkA l ((p : Nat) + 1) = tkE (l.getD (p + 1) 0) := fun hq => tkA_in (by omega) hq
  unfold rlZ at hr ⊢
  by_cases c1 : tkA l (p : Nat) = 1000
  · have hq := nx (Or.inl c1)
    have b1 := tkE_of (h.xb _ (mem_getD hq))
    rw [if_pos c1] at hr ⊢
    by_cases c2 : tkA l ((p : Nat) + 1) = 1001
    · rw [if_pos c2]
      rw [e1 hq] at c2
      rw [e0] at c1
      exact ⟨hq, Or.inl ⟨rfl, b0.1 c1, b1.2.1 c2⟩⟩
    · rw [if_neg c2] at hr
      exact absurd rfl hr
  · rw [if_neg c1] at hr ⊢
    by_cases c2 : tkA l (p : Nat) ≠ 1002
    · rw [if_pos c2] at hr
      exact absurd rfl hr
    · have c2' : tkA l (p : Nat) = 1002 := by omega
      have hq := nx (Or.inr c2')
      have b1 := tkE_of (h.xb _ (mem_getD hq))
      have z0 : 1000000 ≤ l.getD p 0 := b0.2.2.1 (by rw [← e0]; exact c2')
      rw [if_neg c2] at hr ⊢
      rw [e1 hq] at hr ⊢
      by_cases c3 : tkE (l.getD (p + 1) 0) = 1000
      · rw [if_pos c3]
        exact ⟨hq, Or.inr (Or.inl ⟨rfl, z0, b1.1 c3⟩)⟩
      · rw [if_neg c3] at hr ⊢
        by_cases c4 : tkE (l.getD (p + 1) 0) = 1001
        · rw [if_pos c4]
          exact ⟨hq, Or.inr (Or.inr (Or.inl ⟨rfl, z0, b1.2.1 c4⟩))⟩
        · rw [if_neg c4] at hr ⊢
          by_cases c5 : tkE (l.getD (p + 1) 0) = 1002
          · rw [if_pos c5] at hr ⊢
            by_cases c6 : mg
            · rw [if_pos c6]
              exact ⟨hq, Or.inr (Or.inr (Or.inr (Or.inr ⟨rfl, z0, b1.2.2.1 c5⟩)))⟩
            · rw [if_neg c6] at hr
              exact absurd rfl hr
          · rw [if_neg c5]
            exact ⟨hq, Or.inr (Or.inr (Or.inr (Or.inl ⟨rfl, z0, b1.2.2.2 c3 c4 c5⟩)))⟩
/-- the subterm at p by its parts: where it ends, and what comes behind -/
theorem rw_of {l : List Int} {p c : Nat} {cs n : List Nat} {x mid post : List Int} {r : Int} (hp : p < l.length) (hw : wfr (l.take p) [10] = some (c :: cs)) (hn : nxt (l.getD p 0) c = some n) (hd : l.drop (p + 1) = mid ++ post) (hm : wfr mid n = some []) (hpost : wfr post cs = some []) (hx : pcR l p r = x) (hxw : wfr x [c] = some []) : bh l p 1 = p + 1 + mid.length ∧ wfr (rwX l p r) [10] = some [] := by
  have e : bh l p 1 = p + 1 + mid.length := by
    unfold bh
    rw [drop_cons hp, sk_1, hd, ← nxt_len hn, sk_wf mid n post hm]
    omega
  refine ⟨e, ?_⟩
  unfold rwX
  rw [hx, e, show p + 1 + mid.length = (p + 1) + mid.length from rfl, drop_app hd]
  exact wfr_repl hw hxw hpost
theorem XG_beta {l : List Int} {p : Nat} (h : XG l) (hp : p + 1 < l.length) (h0 : l.getD p 0 = 1000) (h1 : l.getD (p + 1) 0 = 1001) : wfr (rwX l p 0) [10] = some [] ∧ p + 2 ≤ bh l p 1 := by
  obtain ⟨c, cs, n, hw, hn, w⟩ := h.at (p := p) (by omega)
  rw [h0] at hn
  cases hn
  obtain ⟨mid, post, e, m1, m2⟩ := wfr_split _ _ _ w
  have hd2 := e
  rw [drop_cons hp, h1] at hd2
  cases mid with
  | nil => cases m1
  | cons t mid2 =>
    have e2 : (1001 : Int) = t ∧ l.drop (p + 1 + 1) = mid2 ++ post := by
      rw [List.cons_append] at hd2
      injection hd2 with a b
      exact ⟨a, b⟩
    obtain ⟨rfl, e3⟩ := e2
    rw [wfr_step (nxt_1001 c)] at m1
    have key : bh l p 1 = p + 1 + (1001 :: mid2).length := by
      unfold bh
      rw [drop_cons (by omega), sk_1, e, h0]
      have : sk ((1001 :: mid2) ++ post) 2 = (1001 :: mid2).length := sk_wf (1001 :: mid2) [c, c] post (by rw [wfr_step (nxt_1001 c)]; exact m1)
      rw [prt_1000, this]
      omega
    have hsl : sl l (p + 2) (bh l p 1) = mid2 := by
      rw [key, List.length_cons, show p + 1 + (mid2.length + 1) = (p + 2) + mid2.length by omega]
      exact sl_app e3
    have q := rw_of (r := 0) (x := clo 1 0 :: mid2) (by omega) hw (by rw [h0]; rfl) e (by rw [wfr_step (nxt_1001 c)]; exact m1) m2 (by unfold pcR; rw [if_pos rfl]; unfold pcB; rw [hsl]) (by
      rw [wfr_step (nxt_clo (by omega) (by omega))]
      exact m1)
    exact ⟨q.2, by rw [key, List.length_cons]; omega⟩
/-- contexts on the way: the slack -/
theorem wfr_slack {M : Nat} : ∀ (a b : List Int) (cs ds : List Nat), wfr a cs = some ds → wfr b ds = some [] → (∀ c ∈ cs, c + (a.length + b.length) ≤ M + cs.length) → ∀ c ∈ ds, c + b.length ≤ M + ds.length
  | [], b, cs, ds, h, h2, hb => by
    rw [wfr_nil] at h
    cases h
    simpa using hb
  | t :: a, b, cs, ds, h, h2, hb => by
    obtain ⟨c, cs', n, rfl, hn, h3⟩ := wfr_cons h
    have hc := hb c List.mem_cons_self
    have hnl := nxt_len hn
    have hall : wfr (a ++ b) (n ++ cs') = some [] := by rw [wfr_app, h3]; exact h2
    have hl := wfr_le _ _ hall
    rw [List.length_append, List.length_append] at hl
    simp only [List.length_cons] at hc
    refine wfr_slack a b (n ++ cs') ds h3 h2 (fun x hx => ?_)
    rw [List.length_append]
    rcases List.mem_append.mp hx with q | q
    · unfold nxt at hn
      by_cases h1 : t = 1000
      · rw [if_pos h1] at hn
        cases hn
        have : x = c := by simpa using q
        simp only [List.length_cons, List.length_nil]
        omega
      · rw [if_neg h1] at hn
        by_cases h22 : t = 1001
        · rw [if_pos h22] at hn
          cases hn
          have : x = c + 1 := by simpa using q
          simp only [List.length_cons, List.length_nil]
          omega
        · rw [if_neg h22] at hn
          by_cases h33 : 1000000 ≤ t
          · rw [if_pos h33] at hn
            split at hn
            · cases hn
              simp only [List.length_cons, List.length_replicate] at hl ⊢
              rcases List.mem_cons.mp q with e | e
              · omega
              · have := (List.mem_replicate.mp e).2
                omega
            · cases hn
          · rw [if_neg h33] at hn
            split at hn
            · cases hn
              cases q
            · cases hn
    · have := hb x (List.mem_cons_of_mem _ q)
      simp only [List.length_cons] at this
      omega
theorem wfr_ctx (l : List Int) {p c : Nat} {cs : List Nat} (h : wfr l [10] = some []) (hl : l.length ≤ 300) (hp : p < l.length) (hw : wfr (l.take p) [10] = some (c :: cs)) : c ≤ 309 := by
  have e := h
  rw [← List.take_append_drop p l, wfr_app, hw] at e
  have e : wfr (l.drop p) (c :: cs) = some [] := e
  have := wfr_slack (M := 309) (l.take p) (l.drop p) [10] (c :: cs) hw e (fun x hx => by
    have : x = 10 := by simpa using hx
    rw [← List.length_append, List.take_append_drop]
    simp only [List.length_cons, List.length_nil]
    omega) c List.mem_cons_self
  have h2 := wfr_le _ _ e
  omega
/-- a closure at p: its body and its entries -/
theorem clo_split {l : List Int} {p : Nat} (h : XG l) (hp : p + 1 < l.length) (h0 : 1000000 ≤ l.getD p 0) : ∃ (c : Nat) (cs : List Nat) (body es post : List Int), wfr (l.take p) [10] = some (c :: cs) ∧ kh (l.getD p 0) ≤ c ∧ c ≤ 309 ∧ l.drop (p + 1) = body ++ (es ++ post) ∧ wfr body [c - kh (l.getD p 0) + kn (l.getD p 0)] = some [] ∧ wfr es (List.replicate (kn (l.getD p 0)) c) = some [] ∧ wfr post cs = some [] ∧ nxt (l.getD p 0) c = some ((c - kh (l.getD p 0) + kn (l.getD p 0)) :: List.replicate (kn (l.getD p 0)) c) := by
  obtain ⟨c, cs, n, hw, hn, w⟩ := h.at (p := p) (by omega)
  obtain ⟨k1, rfl⟩ := nxt_closure h0 hn
  obtain ⟨mid, post, e, m1, m2⟩ := wfr_split _ _ _ w
  have m1 : wfr mid ([c - kh (l.getD p 0) + kn (l.getD p 0)] ++ List.replicate (kn (l.getD p 0)) c) = some [] := m1
  obtain ⟨body, es, rfl, b1, b2⟩ := wfr_split _ _ _ m1
  refine ⟨c, cs, body, es, post, hw, k1, ?_, by rw [e, List.append_assoc], b1, b2, m2, hn⟩
  exact wfr_ctx l h.2 h.1 (by omega) hw
theorem XG_apply {l : List Int} {p : Nat} (h : XG l) (hp : p + 1 < l.length) (h0 : 1000000 ≤ l.getD p 0) (h1 : l.getD (p + 1) 0 = 1000) : wfr (rwX l p 1) [10] = some [] ∧ bh l p 1 = bh l (p + 2) (2 + kn (l.getD p 0)) := by
  obtain ⟨c, cs, body, es, post, hw, hk, hc, hd, b1, b2, b3, hn⟩ := clo_split h hp h0
  have hd0 := hd
  rw [drop_cons hp, h1] at hd
  cases body with
  | nil => cases b1
  | cons t fa =>
    rw [List.cons_append] at hd
    injection hd with e1 e2
    subst e1
    rw [wfr_step (nxt_1000 _)] at b1
    have b1' : wfr fa ([c - kh (l.getD p 0) + kn (l.getD p 0)] ++ [c - kh (l.getD p 0) + kn (l.getD p 0)]) = some [] := b1
    obtain ⟨f, a, rfl, f1, f2⟩ := wfr_split _ _ _ b1'
    have e2' : l.drop (p + 2) = f ++ (a ++ (es ++ post)) := by rw [e2]; simp only [List.append_assoc]
    have p1 : bh l (p + 2) 1 = p + 2 + f.length := bh_app e2' f1
    have d1 := drop_app e2'
    have p2 : bh l (p + 2) 2 = p + 2 + f.length + a.length := by
      rw [show 2 = 1 + 1 from rfl, bh_add, p1]
      exact bh_app d1 f2
    have d2 := drop_app d1
    have p3 : bh l (p + 2) (2 + kn (l.getD p 0)) = p + 2 + f.length + a.length + es.length := by
      rw [bh_add, p2]
      have := bh_app d2 b2
      rwa [List.length_replicate] at this
    have s1 : sl l (p + 2) (bh l (p + 2) 1) = f := by rw [p1]; exact sl_app e2'
    have s2 : sl l (bh l (p + 2) 2) (bh l (p + 2) (2 + kn (l.getD p 0))) = es := by rw [p2, p3]; exact sl_app d2
    have s3 : sl l (bh l (p + 2) 1) (bh l (p + 2) (2 + kn (l.getD p 0))) = a ++ es := by
      rw [p1, p3, show p + 2 + f.length + a.length + es.length = p + 2 + f.length + (a ++ es).length by rw [List.length_append]; omega]
      exact sl_app (b := post) (by rw [d1, List.append_assoc])
    have hbody : wfr (1000 :: (f ++ a)) [c - kh (l.getD p 0) + kn (l.getD p 0)] = some [] := by rw [wfr_step (nxt_1000 _)]; exact b1
    have hmid : wfr ((1000 :: (f ++ a)) ++ es) ((c - kh (l.getD p 0) + kn (l.getD p 0)) :: List.replicate (kn (l.getD p 0)) c) = some [] := by
      rw [wfr_app]
      have := wfr_tl _ _ _ (List.replicate (kn (l.getD p 0)) c) hbody
      have this : wfr (1000 :: (f ++ a)) ((c - kh (l.getD p 0) + kn (l.getD p 0)) :: List.replicate (kn (l.getD p 0)) c) = some (List.replicate (kn (l.getD p 0)) c) := this
      rw [this]
      exact b2
    have one : ∀ z : List Int, wfr z [c - kh (l.getD p 0) + kn (l.getD p 0)] = some [] → ∀ e : List Nat, wfr (l.getD p 0 :: (z ++ es)) (c :: e) = some e := fun z hz e => by
      rw [wfr_step hn, wfr_app]
      have q := wfr_tl _ _ _ (List.replicate (kn (l.getD p 0)) c ++ e) hz
      have q : wfr z ((c - kh (l.getD p 0) + kn (l.getD p 0)) :: List.replicate (kn (l.getD p 0)) c ++ e) = some (List.replicate (kn (l.getD p 0)) c ++ e) := q
      rw [q]
      exact wfr_tl _ _ _ e b2
    have q := rw_of (r := 1) (x := 1000 :: l.getD p 0 :: (f ++ (es ++ (l.getD p 0 :: (a ++ es))))) (by omega) hw hn (by rw [hd0]; simp only [List.append_assoc]) hmid b3 (by unfold pcR; rw [if_neg (by decide), if_pos rfl]; unfold pcA; rw [s1, s2, s3]) (by
      rw [wfr_step (nxt_1000 c)]
      have e9 : l.getD p 0 :: (f ++ (es ++ (l.getD p 0 :: (a ++ es)))) = (l.getD p 0 :: (f ++ es)) ++ (l.getD p 0 :: (a ++ es)) := by simp only [List.cons_append, List.append_assoc]
      rw [e9, wfr_app]
      have z := one f f1 [c]
      have z : wfr (l.getD p 0 :: (f ++ es)) ([c, c] ++ []) = some [c] := z
      rw [z]
      exact one a f2 [])
    refine ⟨q.2, ?_⟩
    rw [q.1, p3]
    simp only [List.length_append, List.length_cons]
    omega
theorem XG_abs {l : List Int} {p : Nat} (h : XG l) (hp : p + 1 < l.length) (h0 : 1000000 ≤ l.getD p 0) (h1 : l.getD (p + 1) 0 = 1001) : wfr (rwX l p 2) [10] = some [] ∧ bh l p 1 = bh l (p + 2) (1 + kn (l.getD p 0)) := by
  obtain ⟨c, cs, body, es, post, hw, hk, hc, hd, b1, b2, b3, hn⟩ := clo_split h hp h0
  have hd0 := hd
  rw [drop_cons hp, h1] at hd
  cases body with
  | nil => cases b1
  | cons t f =>
    rw [List.cons_append] at hd
    injection hd with e1 e2
    subst e1
    rw [wfr_step (nxt_1001 _)] at b1
    have b1 : wfr f [c - kh (l.getD p 0) + kn (l.getD p 0) + 1] = some [] := b1
    have p1 : bh l (p + 2) 1 = p + 2 + f.length := bh_app e2 b1
    have d1 : l.drop (p + 2 + f.length) = es ++ post := drop_app e2
    have p3 : bh l (p + 2) (1 + kn (l.getD p 0)) = p + 2 + f.length + es.length := by
      rw [bh_add, p1]
      have := bh_app d1 b2
      rwa [List.length_replicate] at this
    have s1 : sl l (p + 2) (bh l (p + 2) 1) = f := by rw [p1]; exact sl_app e2
    have hbody : wfr (1001 :: f) [c - kh (l.getD p 0) + kn (l.getD p 0)] = some [] := by rw [wfr_step (nxt_1001 _)]; exact b1
    have hmid : wfr ((1001 :: f) ++ es) ((c - kh (l.getD p 0) + kn (l.getD p 0)) :: List.replicate (kn (l.getD p 0)) c) = some [] := by
      rw [wfr_app]
      have := wfr_tl _ _ _ (List.replicate (kn (l.getD p 0)) c) hbody
      have this : wfr (1001 :: f) ((c - kh (l.getD p 0) + kn (l.getD p 0)) :: List.replicate (kn (l.getD p 0)) c) = some (List.replicate (kn (l.getD p 0)) c) := this
      rw [this]
      exact b2
    have ab := abE_wf d1 b2 (kn (l.getD p 0)) (Nat.le_refl _)
    have q := rw_of (r := 2) (x := 1001 :: clo (kn (l.getD p 0) + 1) (kh (l.getD p 0) + 1) :: (f ++ (0 :: abE l (p + 2 + f.length) (kn (l.getD p 0))))) (by omega) hw hn (by rw [hd0]; simp only [List.append_assoc]) hmid b3 (by unfold pcR; rw [if_neg (by decide), if_neg (by decide), if_pos rfl]; unfold pcL; rw [s1, p1]) (by
      rw [wfr_step (nxt_1001 c)]
      have z := nxt_clo (n := kn (l.getD p 0) + 1) (k := kh (l.getD p 0) + 1) (c := c + 1) (by have := (h.xb.tk (k := p) (by omega)).2.2; unfold shE at this; rw [if_pos h0] at this; omega) (by omega)
      show wfr (clo (kn (l.getD p 0) + 1) (kh (l.getD p 0) + 1) :: (f ++ (0 :: abE l (p + 2 + f.length) (kn (l.getD p 0))))) [c + 1] = some []
      rw [wfr_step z, List.append_nil, show c + 1 - (kh (l.getD p 0) + 1) + (kn (l.getD p 0) + 1) = c - kh (l.getD p 0) + kn (l.getD p 0) + 1 by omega, wfr_app]
      have q := wfr_tl _ _ _ (List.replicate (kn (l.getD p 0) + 1) (c + 1)) b1
      have q : wfr f ((c - kh (l.getD p 0) + kn (l.getD p 0) + 1) :: List.replicate (kn (l.getD p 0) + 1) (c + 1)) = some (List.replicate (kn (l.getD p 0) + 1) (c + 1)) := q
      rw [q]
      show wfr (0 :: abE l (p + 2 + f.length) (kn (l.getD p 0))) (List.replicate (kn (l.getD p 0) + 1) (c + 1)) = some []
      rw [List.replicate_succ, wfr_step (nxt_var (by decide) (by omega) (by decide))]
      exact ab)
    refine ⟨q.2, ?_⟩
    rw [q.1, p3]
    simp only [List.length_append, List.length_cons]
    omega
theorem XG_look {l : List Int} {p : Nat} (h : XG l) (hp : p + 1 < l.length) (h0 : 1000000 ≤ l.getD p 0) (h1 : 0 ≤ l.getD (p + 1) 0 ∧ l.getD (p + 1) 0 < 310) : wfr (rwX l p 3) [10] = some [] ∧ bh l p 1 = bh l (p + 2) (kn (l.getD p 0)) := by
  obtain ⟨c, cs, body, es, post, hw, hk, hc, hd, b1, b2, b3, hn⟩ := clo_split h hp h0
  have hd0 := hd
  rw [drop_cons hp] at hd
  cases body with
  | nil => cases b1
  | cons t f =>
    rw [List.cons_append] at hd
    injection hd with e1 e2
    obtain ⟨c0, cs0, n0, e3, hn0, b4⟩ := wfr_cons b1
    cases e3
    rw [← e1] at hn0
    rcases nxt_plain (by omega) hn0 with ⟨z, -⟩ | ⟨z, -⟩ | ⟨-, -, z1, z2, rfl⟩
    · omega
    · omega
    · have b4 : wfr f [] = some [] := b4
      have ef : f = [] := by
        cases f with
        | nil => rfl
        | cons x y => cases b4
      subst ef
      have e2 : l.drop (p + 2) = es ++ post := e2
      have p3 : bh l (p + 2) (kn (l.getD p 0)) = p + 2 + es.length := by
        have := bh_app e2 b2
        rwa [List.length_replicate] at this
      have hmid : wfr (t :: es) ((c - kh (l.getD p 0) + kn (l.getD p 0)) :: List.replicate (kn (l.getD p 0)) c) = some [] := by
        rw [← e1, wfr_step hn0]
        exact b2
      have q := rw_of (r := 3) (x := pcK l p) (by omega) hw hn (mid := t :: es) (by rw [hd0]; rfl) hmid b3 (by unfold pcR; rw [if_neg (by decide), if_neg (by decide), if_neg (by decide), if_pos rfl]) (by
        unfold pcK
        split
        · rename_i hlt
          exact ent_rep e2 b2 (by omega)
        · rename_i hlt
          rw [wfr_step (n := [])]
          · rfl
          · exact nxt_var (by omega) (by omega) (by omega))
      refine ⟨q.2, ?_⟩
      rw [q.1, p3, List.length_cons]
      omega
theorem XG_merge {l : List Int} {p : Nat} (h : XG l) (hp : p + 1 < l.length) (h0 : 1000000 ≤ l.getD p 0) (h1 : 1000000 ≤ l.getD (p + 1) 0) : wfr (rwX l p 4) [10] = some [] ∧ bh l p 1 = bh l (p + 2) (1 + kn (l.getD (p + 1) 0) + kn (l.getD p 0)) := by
  obtain ⟨c, cs, body, es, post, hw, hk, hc, hd, b1, b2, b3, hn⟩ := clo_split h hp h0
  have hb0 := (h.xb.tk (k := p) (by omega)).2.2
  have hb1 := (h.xb.tk (k := p + 1) hp).2.2
  unfold shE at hb0 hb1
  rw [if_pos h0] at hb0
  rw [if_pos h1] at hb1
  have hd0 := hd
  rw [drop_cons hp] at hd
  cases body with
  | nil => cases b1
  | cons t ba =>
    rw [List.cons_append] at hd
    injection hd with e1 e2
    obtain ⟨c0, cs0, n0, e3, hn0, b4⟩ := wfr_cons b1
    cases e3
    rw [← e1] at hn0
    obtain ⟨k2, rfl⟩ := nxt_closure h1 hn0
    rw [List.append_nil] at b4
    generalize hc1 : c - kh (l.getD p 0) + kn (l.getD p 0) = c1 at *
    have b4 : wfr ba ([c1 - kh (l.getD (p + 1) 0) + kn (l.getD (p + 1) 0)] ++ List.replicate (kn (l.getD (p + 1) 0)) c1) = some [] := b4
    obtain ⟨b, as_, rfl, f1, f2⟩ := wfr_split _ _ _ b4
    have e2' : l.drop (p + 2) = b ++ (as_ ++ (es ++ post)) := by rw [e2]; simp only [List.append_assoc]
    have p1 : bh l (p + 2) 1 = p + 2 + b.length := bh_app e2' f1
    have d1 := drop_app e2'
    have p2 : bh l (p + 2) (1 + kn (l.getD (p + 1) 0)) = p + 2 + b.length + as_.length := by
      rw [bh_add, p1]
      have := bh_app d1 f2
      rwa [List.length_replicate] at this
    have d2 := drop_app d1
    have p3 : bh l (p + 2) (1 + kn (l.getD (p + 1) 0) + kn (l.getD p 0)) = p + 2 + b.length + as_.length + es.length := by
      rw [bh_add, p2]
      have := bh_app d2 b2
      rwa [List.length_replicate] at this
    have s1 : sl l (p + 2) (bh l (p + 2) 1) = b := by rw [p1]; exact sl_app e2'
    have s2 : sl l (bh l (p + 2) (1 + kn (l.getD (p + 1) 0))) (bh l (p + 2) (1 + kn (l.getD (p + 1) 0) + kn (l.getD p 0))) = es := by rw [p2, p3]; exact sl_app d2
    have mg := mgE_wf (t := l.getD p 0) (os := bh l (p + 2) (1 + kn (l.getD (p + 1) 0))) (oe := bh l (p + 2) (1 + kn (l.getD (p + 1) 0) + kn (l.getD p 0))) h0 hk d1 f2 hc1.symm (by rw [s2]; exact b2) (kn (l.getD (p + 1) 0)) (Nat.le_refl _)
    -- the outer entries that stay
    generalize hdr : min (kh (l.getD (p + 1) 0)) (kn (l.getD p 0)) = dr at *
    have hdr1 : dr ≤ kn (l.getD p 0) := by omega
    have stay : wfr (sl l (bh l (p + 2) (1 + kn (l.getD (p + 1) 0) + dr)) (bh l (p + 2) (1 + kn (l.getD (p + 1) 0) + kn (l.getD p 0)))) (List.replicate (kn (l.getD p 0) - dr) c) = some [] := by
      have b2' := b2
      rw [show List.replicate (kn (l.getD p 0)) c = List.replicate dr c ++ List.replicate (kn (l.getD p 0) - dr) c by rw [List.replicate_append_replicate]; congr 1; omega] at b2'
      obtain ⟨g1, g2, e9, w1, w2⟩ := wfr_split _ _ _ b2'
      have d3 : l.drop (p + 2 + b.length + as_.length) = g1 ++ (g2 ++ post) := by rw [d2, e9, List.append_assoc]
      have q1 : bh l (p + 2) (1 + kn (l.getD (p + 1) 0) + dr) = p + 2 + b.length + as_.length + g1.length := by
        rw [bh_add, p2]
        have := bh_app d3 w1
        rwa [List.length_replicate] at this
      rw [q1, p3, e9, List.length_append, show p + 2 + b.length + as_.length + (g1.length + g2.length) = p + 2 + b.length + as_.length + g1.length + g2.length by omega, sl_app (drop_app d3)]
      exact w2
    have hbody : wfr (t :: (b ++ as_)) [c1] = some [] := by
      rw [← e1, wfr_step hn0, List.append_nil]
      exact b4
    have hmid : wfr ((t :: (b ++ as_)) ++ es) (c1 :: List.replicate (kn (l.getD p 0)) c) = some [] := by
      rw [wfr_app]
      have := wfr_tl _ _ _ (List.replicate (kn (l.getD p 0)) c) hbody
      have this : wfr (t :: (b ++ as_)) (c1 :: List.replicate (kn (l.getD p 0)) c) = some (List.replicate (kn (l.getD p 0)) c) := this
      rw [this]
      exact b2
    have q := rw_of (r := 4) (x := pcM l p) (by omega) hw hn (by rw [hd0]; simp only [List.append_assoc]) hmid b3 (by unfold pcR; rw [if_neg (by decide), if_neg (by decide), if_neg (by decide), if_neg (by decide)]) (by
      unfold pcM
      rw [hdr, s1]
      have z := nxt_clo (n := kn (l.getD (p + 1) 0) + kn (l.getD p 0) - dr) (k := kh (l.getD (p + 1) 0) - dr + kh (l.getD p 0)) (c := c) (by omega) (by omega)
      rw [wfr_step z, List.append_nil, show c - (kh (l.getD (p + 1) 0) - dr + kh (l.getD p 0)) + (kn (l.getD (p + 1) 0) + kn (l.getD p 0) - dr) = c1 - kh (l.getD (p + 1) 0) + kn (l.getD (p + 1) 0) by omega, wfr_app]
      have q := wfr_tl _ _ _ (List.replicate (kn (l.getD (p + 1) 0) + kn (l.getD p 0) - dr) c) f1
      have q : wfr b ((c1 - kh (l.getD (p + 1) 0) + kn (l.getD (p + 1) 0)) :: List.replicate (kn (l.getD (p + 1) 0) + kn (l.getD p 0) - dr) c) = some (List.replicate (kn (l.getD (p + 1) 0) + kn (l.getD p 0) - dr) c) := q
      rw [q]
      show wfr (mgE _ _ _ _ _ _ ++ _) _ = _
      rw [show List.replicate (kn (l.getD (p + 1) 0) + kn (l.getD p 0) - dr) c = List.replicate (kn (l.getD (p + 1) 0)) c ++ List.replicate (kn (l.getD p 0) - dr) c by rw [List.replicate_append_replicate]; congr 1; omega, wfr_app, p1, wfr_tl _ _ _ _ mg]
      exact stay)
    refine ⟨q.2, ?_⟩
    rw [q.1, p3]
    simp only [List.length_append, List.length_cons]
    omega
theorem XG_rw {l : List Int} {p : Nat} {r : Int} (h : XG l) (hr : rlC l p r) (hl : (rwX l p r).length ≤ 300) : XG (rwX l p r) := by
  obtain ⟨hp, q⟩ := hr
  rcases q with ⟨rfl, a, b⟩ | ⟨rfl, a, b⟩ | ⟨rfl, a, b⟩ | ⟨rfl, a, b⟩ | ⟨rfl, a, b⟩
  · exact ⟨hl, (XG_beta h hp a b).1⟩
  · exact ⟨hl, (XG_apply h hp a b).1⟩
  · exact ⟨hl, (XG_abs h hp a b).1⟩
  · exact ⟨hl, (XG_look h hp a b).1⟩
  · exact ⟨hl, (XG_merge h hp a b).1⟩
