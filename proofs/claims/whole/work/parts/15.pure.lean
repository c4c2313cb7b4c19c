/-! PURE: rows of tokens as terms, by stacks of contexts -/
def kn (t : Int) : Nat := ((t - 1000000) / 1000).toNat
def kh (t : Int) : Nat := ((t - 1000000) % 1000).toNat
def prt (t : Int) : Nat := if 1000000 ≤ t then 1 + kn t else if t = 1000 then 2 else if t = 1001 then 1 else 0
def nxt (t : Int) (c : Nat) : Option (List Nat) :=
  if t = 1000 then some [c, c] else if t = 1001 then some [c + 1] else if 1000000 ≤ t then (if kh t ≤ c then some ((c - kh t + kn t) :: List.replicate (kn t) c) else none) else if 0 ≤ t ∧ t < (c : Nat) then some [] else none
def wfr : List Int → List Nat → Option (List Nat)
  | [], cs => some cs
  | _ :: _, [] => none
  | t :: r, c :: cs => match nxt t c with
    | none => none
    | some n => wfr r (n ++ cs)
theorem wfr_nil (cs : List Nat) : wfr [] cs = some cs := by cases cs <;> rfl
theorem wfr_cons {t : Int} {r : List Int} {cs ds : List Nat} (h : wfr (t :: r) cs = some ds) : ∃ c cs' n, cs = c :: cs' ∧ nxt t c = some n ∧ wfr r (n ++ cs') = some ds := by
  cases cs with
  | nil => cases h
  | cons c cs' =>
    unfold wfr at h
    cases hn : nxt t c with
    | none => rw [hn] at h; cases h
    | some n => rw [hn] at h; exact ⟨c, cs', n, rfl, hn, h⟩
theorem wfr_step {t : Int} {r : List Int} {c : Nat} {cs n : List Nat} (h : nxt t c = some n) : wfr (t :: r) (c :: cs) = wfr r (n ++ cs) := by
  show (match nxt t c with | none => none | some n => wfr r (n ++ cs)) = _
  rw [h]
theorem wfr_app : ∀ (a b : List Int) (cs : List Nat), wfr (a ++ b) cs = (wfr a cs).bind (wfr b)
  | [], b, cs => by rw [List.nil_append, wfr_nil]; rfl
  | t :: a, b, [] => rfl
  | t :: a, b, c :: cs => by
    rw [List.cons_append]
    cases hn : nxt t c with
    | none =>
      have e : ∀ r, wfr (t :: r) (c :: cs) = none := fun r => by
        show (match nxt t c with | none => none | some n => wfr r (n ++ cs)) = _
        rw [hn]
      rw [e, e]
      rfl
    | some n => rw [wfr_step hn, wfr_step hn, wfr_app a b (n ++ cs)]
theorem wfr_tl : ∀ (l : List Int) (cs ds e : List Nat), wfr l cs = some ds → wfr l (cs ++ e) = some (ds ++ e)
  | [], cs, ds, e, h => by
    rw [wfr_nil] at h
    cases h
    exact wfr_nil _
  | t :: r, cs, ds, e, h => by
    obtain ⟨c, cs', n, rfl, hn, h2⟩ := wfr_cons h
    rw [List.cons_append, wfr_step hn, ← List.append_assoc]
    exact wfr_tl r _ ds e h2
theorem wfr_split : ∀ (l : List Int) (c1 c2 : List Nat), wfr l (c1 ++ c2) = some [] → ∃ a b, l = a ++ b ∧ wfr a c1 = some [] ∧ wfr b c2 = some []
  | l, [], c2, h => ⟨[], l, rfl, rfl, h⟩
  | [], c :: c1, c2, h => by cases h
  | t :: r, c :: c1, c2, h => by
    obtain ⟨c', cs', n, e, hn, h2⟩ := wfr_cons h
    cases e
    have h2 : wfr r (n ++ (c1 ++ c2)) = some [] := h2
    rw [← List.append_assoc] at h2
    obtain ⟨a, b, e1, h3, h4⟩ := wfr_split r (n ++ c1) c2 h2
    exact ⟨t :: a, b, by rw [e1]; rfl, by rw [wfr_step hn]; exact h3, h4⟩
theorem nxt_len {t : Int} {c : Nat} {n : List Nat} (h : nxt t c = some n) : n.length = prt t := by
  unfold nxt at h
  unfold prt
  by_cases h1 : t = 1000
  · rw [if_pos h1] at h
    cases h
    rw [if_neg (by omega), if_pos h1]
    rfl
  · rw [if_neg h1] at h
    by_cases h2 : t = 1001
    · rw [if_pos h2] at h
      cases h
      rw [if_neg (by omega), if_neg h1, if_pos h2]
      rfl
    · rw [if_neg h2] at h
      by_cases h3 : 1000000 ≤ t
      · rw [if_pos h3] at h
        split at h
        · cases h
          rw [if_pos h3, List.length_cons, List.length_replicate]
          omega
        · cases h
      · rw [if_neg h3] at h
        split at h
        · cases h
          rw [if_neg h3, if_neg h1, if_neg h2]
          rfl
        · cases h
def sk : List Int → Nat → Nat
  | _, 0 => 0
  | [], _ + 1 => 0
  | t :: r, n + 1 => 1 + sk r (n + prt t)
theorem sk_0 (l : List Int) : sk l 0 = 0 := by cases l <;> rfl
theorem sk_nil (n : Nat) : sk [] n = 0 := by cases n <;> rfl
theorem sk_add : ∀ (l : List Int) (a b : Nat), sk l (a + b) = sk l a + sk (l.drop (sk l a)) b
  | l, 0, b => by rw [Nat.zero_add, sk_0, List.drop_zero, Nat.zero_add]
  | [], a + 1, b => by rw [sk_nil, sk_nil, List.drop_nil, sk_nil]
  | t :: r, a + 1, b => by
    have e : a + 1 + b = (a + b) + 1 := by omega
    rw [e]
    show 1 + sk r (a + b + prt t) = 1 + sk r (a + prt t) + sk ((t :: r).drop (1 + sk r (a + prt t))) b
    rw [show a + b + prt t = (a + prt t) + b by omega, sk_add r (a + prt t) b, Nat.add_comm 1 (sk r (a + prt t)), List.drop_succ_cons]
    omega
theorem sk_le : ∀ (l : List Int) (n : Nat), sk l n ≤ l.length
  | l, 0 => by rw [sk_0]; exact Nat.zero_le _
  | [], n + 1 => Nat.le_refl 0
  | t :: r, n + 1 => by
    have := sk_le r (n + prt t)
    show 1 + sk r (n + prt t) ≤ r.length + 1
    omega
theorem sk_wf : ∀ (l : List Int) (cs : List Nat) (r : List Int), wfr l cs = some [] → sk (l ++ r) cs.length = l.length
  | [], cs, r, h => by
    rw [wfr_nil] at h
    cases h
    exact sk_0 _
  | t :: l, cs, r, h => by
    obtain ⟨c, cs', n, rfl, hn, h2⟩ := wfr_cons h
    have h3 := sk_wf l (n ++ cs') r h2
    rw [List.length_append, nxt_len hn] at h3
    show 1 + sk (l ++ r) (cs'.length + prt t) = l.length + 1
    rw [Nat.add_comm cs'.length, h3]
    omega
theorem wfr_le : ∀ (l : List Int) (cs : List Nat), wfr l cs = some [] → cs.length ≤ l.length
  | [], cs, h => by
    rw [wfr_nil] at h
    cases h
    exact Nat.le_refl 0
  | t :: l, cs, h => by
    obtain ⟨c, cs', n, rfl, hn, h2⟩ := wfr_cons h
    have := wfr_le l _ h2
    rw [List.length_append] at this
    simp only [List.length_cons]
    omega
/-- a token's numbers stay below a bound -/
def tokB (M : Nat) (t : Int) : Prop := t = 1000 ∨ t = 1001 ∨ (1000000 ≤ t ∧ kn t < M ∧ kh t ≤ M) ∨ (0 ≤ t ∧ t < (M : Nat))
theorem wfr_B {M : Nat} : ∀ (l : List Int) (cs : List Nat), wfr l cs = some [] → (∀ c ∈ cs, c + l.length ≤ M + cs.length) → ∀ t ∈ l, tokB M t
  | [], cs, h, hb => fun t ht => by cases ht
  | t :: l, cs, h, hb => by
    obtain ⟨c, cs', n, rfl, hn, h2⟩ := wfr_cons h
    have hc := hb c List.mem_cons_self
    have hl := wfr_le l _ h2
    have hnl := nxt_len hn
    rw [List.length_append] at hl
    simp only [List.length_cons] at hc
    have hrest : ∀ c' ∈ cs', c' + (l.length + 1) ≤ M + (cs'.length + 1) := fun c' h' => by
      have := hb c' (List.mem_cons_of_mem _ h')
      simpa only [List.length_cons] using this
    have key : tokB M t ∧ ∀ c' ∈ n, c' + l.length ≤ M + (n.length + cs'.length) := by
      unfold nxt at hn
      by_cases h1 : t = 1000
      · rw [if_pos h1] at hn
        cases hn
        refine ⟨Or.inl h1, fun c' h' => ?_⟩
        have : c' = c := by simpa using h'
        simp only [List.length_cons, List.length_nil]
        omega
      · rw [if_neg h1] at hn
        by_cases h22 : t = 1001
        · rw [if_pos h22] at hn
          cases hn
          refine ⟨Or.inr (Or.inl h22), fun c' h' => ?_⟩
          have : c' = c + 1 := by simpa using h'
          simp only [List.length_cons, List.length_nil]
          omega
        · rw [if_neg h22] at hn
          by_cases h3 : 1000000 ≤ t
          · rw [if_pos h3] at hn
            by_cases h4 : kh t ≤ c
            · rw [if_pos h4] at hn
              cases hn
              simp only [List.length_cons, List.length_replicate] at hl ⊢
              refine ⟨Or.inr (Or.inr (Or.inl ⟨h3, by omega, by omega⟩)), fun c' h' => ?_⟩
              rcases List.mem_cons.mp h' with e | e
              · omega
              · have := (List.mem_replicate.mp e).2
                omega
            · rw [if_neg h4] at hn
              cases hn
          · rw [if_neg h3] at hn
            split at hn
            · rename_i h4
              cases hn
              exact ⟨Or.inr (Or.inr (Or.inr ⟨h4.1, by omega⟩)), fun c' h' => by cases h'⟩
            · cases hn
    have ih := wfr_B l (n ++ cs') h2 (fun c' h' => by
      rw [List.length_append]
      rcases List.mem_append.mp h' with e | e
      · exact key.2 c' e
      · have := hrest c' e
        omega)
    intro x hx
    rcases List.mem_cons.mp hx with e | e
    · rw [e]; exact key.1
    · exact ih x e
/-! depths -/
def nd (t : Int) (d : Nat) : List Nat := if t = 1000 then [d, d] else if t = 1001 then [d + 1] else []
def stk : List Int → List Nat → List Nat
  | [], ds => ds
  | _ :: _, [] => []
  | t :: r, d :: ds => stk r (nd t d ++ ds)
def dl : List Int → List Nat → List Nat
  | [], _ => []
  | _ :: r, [] => 0 :: dl r []
  | t :: r, d :: ds => d :: dl r (nd t d ++ ds)
theorem stk_nil (ds : List Nat) : stk [] ds = ds := by cases ds <;> rfl
theorem dl_nil (ds : List Nat) : dl [] ds = [] := by cases ds <;> rfl
theorem stk_e : ∀ l : List Int, stk l [] = []
  | [] => rfl
  | _ :: _ => rfl
theorem stk_app : ∀ (a b : List Int) (ds : List Nat), stk (a ++ b) ds = stk b (stk a ds)
  | [], b, ds => by rw [List.nil_append, stk_nil]
  | t :: a, b, [] => by rw [stk_e, stk_e, stk_e]
  | t :: a, b, d :: ds => stk_app a b (nd t d ++ ds)
theorem dl_app : ∀ (a b : List Int) (ds : List Nat), dl (a ++ b) ds = dl a ds ++ dl b (stk a ds)
  | [], b, ds => by rw [List.nil_append, dl_nil, stk_nil]; rfl
  | t :: a, b, [] => by
    have := dl_app a b []
    rw [stk_e] at this ⊢
    exact congrArg (fun x => 0 :: x) this
  | t :: a, b, d :: ds => congrArg (fun x => d :: x) (dl_app a b (nd t d ++ ds))
theorem dl_len : ∀ (l : List Int) (ds : List Nat), (dl l ds).length = l.length
  | [], ds => by rw [dl_nil]; rfl
  | t :: r, [] => congrArg (· + 1) (dl_len r [])
  | t :: r, d :: ds => congrArg (· + 1) (dl_len r (nd t d ++ ds))
theorem nd_len {t : Int} {c d : Nat} {n : List Nat} (hp : t < 1000000) (h : nxt t c = some n) : (nd t d).length = n.length := by
  rw [nxt_len h]
  have e : prt t = if t = 1000 then 2 else if t = 1001 then 1 else 0 := by
    unfold prt
    rw [if_neg (by omega : ¬ (1000000 : Int) ≤ t)]
  rw [e]
  unfold nd
  by_cases h1 : t = 1000
  · rw [if_pos h1, if_pos h1]; rfl
  · rw [if_neg h1, if_neg h1]
    by_cases h2 : t = 1001
    · rw [if_pos h2, if_pos h2]; rfl
    · rw [if_neg h2, if_neg h2]; rfl
theorem stk_wf : ∀ (l : List Int) (cs ds e : List Nat), (∀ t ∈ l, t < 1000000) → wfr l cs = some [] → ds.length = cs.length → stk l (ds ++ e) = e
  | [], cs, ds, e, hp, h, hl => by
    rw [wfr_nil] at h
    cases h
    rw [List.length_eq_zero_iff.mp hl, stk_nil]
    rfl
  | t :: l, cs, ds, e, hp, h, hl => by
    obtain ⟨c, cs', n, rfl, hn, h2⟩ := wfr_cons h
    cases ds with
    | nil => cases hl
    | cons d ds' =>
      show stk l (nd t d ++ (ds' ++ e)) = e
      rw [← List.append_assoc]
      refine stk_wf l _ _ e (fun x hx => hp x (List.mem_cons_of_mem _ hx)) h2 ?_
      rw [List.length_append, List.length_append, nd_len (hp t List.mem_cons_self) hn]
      have : ds'.length + 1 = cs'.length + 1 := hl
      omega
theorem nd_map (t : Int) (d k : Nat) : (nd t d).map (· + k) = nd t (d + k) := by
  unfold nd
  split
  · rfl
  · split
    · show [d + 1 + k] = [d + k + 1]
      rw [show d + 1 + k = d + k + 1 by omega]
    · rfl
theorem dl_shift (k : Nat) : ∀ (l : List Int) (cs ds e : List Nat), (∀ t ∈ l, t < 1000000) → wfr l cs = some [] → ds.length = cs.length → dl l (ds.map (· + k) ++ e) = (dl l ds).map (· + k)
  | [], cs, ds, e, hp, h, hl => by rw [dl_nil, dl_nil]; rfl
  | t :: l, cs, ds, e, hp, h, hl => by
    obtain ⟨c, cs', n, rfl, hn, h2⟩ := wfr_cons h
    cases ds with
    | nil => cases hl
    | cons d ds' =>
      have hl' : ds'.length + 1 = cs'.length + 1 := hl
      have ih := dl_shift k l (n ++ cs') (nd t d ++ ds') e (fun x hx => hp x (List.mem_cons_of_mem _ hx)) h2 (by
        rw [List.length_append, List.length_append, nd_len (hp t List.mem_cons_self) hn]
        omega)
      rw [List.map_append, nd_map] at ih
      show (d + k) :: dl l (nd t (d + k) ++ (ds'.map (· + k) ++ e)) = (d + k) :: (dl l (nd t d ++ ds')).map (· + k)
      rw [← List.append_assoc, ih]
/-! shifting and substituting -/
def shf : List Int → List Nat → Nat → List Int
  | [], _, _ => []
  | t :: r, [], k => t :: shf r [] k
  | t :: r, d :: ds, k => (if 0 ≤ t ∧ t < 1000 ∧ (d : Int) ≤ t then t + (k : Int) else t) :: shf r (nd t d ++ ds) k
def pce (t : Int) (d : Nat) (arg : List Int) : List Int := if ¬ (0 ≤ t ∧ t < 1000) ∨ t < (d : Int) then [t] else if t = (d : Int) then shf arg [0] d else [t - 1]
def sb : List Int → List Nat → List Int → List Int
  | [], _, _ => []
  | _ :: r, [], arg => sb r [] arg
  | t :: r, d :: ds, arg => pce t d arg ++ sb r (nd t d ++ ds) arg
theorem sb_nil (ds : List Nat) (arg : List Int) : sb [] ds arg = [] := by cases ds <;> rfl
theorem sb_app : ∀ (a b : List Int) (ds : List Nat) (arg : List Int), sb (a ++ b) ds arg = sb a ds arg ++ sb b (stk a ds) arg
  | [], b, ds, arg => by rw [List.nil_append, sb_nil, stk_nil]; rfl
  | t :: a, b, [], arg => by
    have := sb_app a b [] arg
    rw [stk_e] at this ⊢
    exact this
  | t :: a, b, d :: ds, arg => by
    show pce t d arg ++ sb (a ++ b) (nd t d ++ ds) arg = (pce t d arg ++ sb a (nd t d ++ ds) arg) ++ sb b (stk a (nd t d ++ ds)) arg
    rw [sb_app a b, List.append_assoc]
theorem shf_len (k : Nat) : ∀ (l : List Int) (ds : List Nat), (shf l ds k).length = l.length
  | [], ds => by cases ds <;> rfl
  | t :: r, [] => congrArg (· + 1) (shf_len k r [])
  | t :: r, d :: ds => congrArg (· + 1) (shf_len k r (nd t d ++ ds))
theorem nxt_plain {t : Int} {c : Nat} {n : List Nat} (hp : t < 1000000) (h : nxt t c = some n) : (t = 1000 ∧ n = [c, c]) ∨ (t = 1001 ∧ n = [c + 1]) ∨ (t ≠ 1000 ∧ t ≠ 1001 ∧ 0 ≤ t ∧ t < (c : Nat) ∧ n = []) := by
  unfold nxt at h
  by_cases h1 : t = 1000
  · rw [if_pos h1] at h
    cases h
    exact Or.inl ⟨h1, rfl⟩
  · rw [if_neg h1] at h
    by_cases h2 : t = 1001
    · rw [if_pos h2] at h
      cases h
      exact Or.inr (Or.inl ⟨h2, rfl⟩)
    · rw [if_neg h2, if_neg (by omega)] at h
      split at h
      · rename_i h3
        cases h
        exact Or.inr (Or.inr ⟨h1, h2, h3.1, h3.2, rfl⟩)
      · cases h
theorem nxt_1000 (c : Nat) : nxt 1000 c = some [c, c] := rfl
theorem nxt_1001 (c : Nat) : nxt 1001 c = some [c + 1] := rfl
theorem nxt_var {t : Int} {c : Nat} (h0 : 0 ≤ t) (h1 : t < (c : Nat)) (h2 : t < 1000) : nxt t c = some [] := by
  unfold nxt
  rw [if_neg (by omega), if_neg (by omega), if_neg (by omega), if_pos ⟨h0, h1⟩]
theorem wfr_shf (c k : Nat) : ∀ (l : List Int) (ds e : List Nat), (∀ t ∈ l, t < 1000000) → wfr l (ds.map (c + ·)) = some [] → (∀ d ∈ ds, c + k + d + l.length ≤ 1000) → wfr (shf l ds k) (ds.map (c + k + ·) ++ e) = some e
  | [], ds, e, hp, h, hb => by
    rw [wfr_nil] at h
    have : ds = [] := by simpa using h
    subst this
    exact wfr_nil e
  | t :: l, ds, e, hp, h, hb => by
    obtain ⟨c1, cs', n, e1, hn, h2⟩ := wfr_cons h
    cases ds with
    | nil => cases e1
    | cons d ds' =>
      cases e1
      have hp' : ∀ x ∈ l, x < 1000000 := fun x hx => hp x (List.mem_cons_of_mem _ hx)
      have hb0 := hb d List.mem_cons_self
      simp only [List.length_cons] at hb0
      have hb' : ∀ x ∈ ds', c + k + x + l.length ≤ 1000 := fun x hx => by
        have := hb x (List.mem_cons_of_mem _ hx)
        simp only [List.length_cons] at this
        omega
      rcases nxt_plain (hp t List.mem_cons_self) hn with ⟨rfl, rfl⟩ | ⟨rfl, rfl⟩ | ⟨n1, n2, h0, h1, rfl⟩
      · have ih := wfr_shf c k l (d :: d :: ds') e hp' h2 (fun x hx => by
          rcases List.mem_cons.mp hx with e | hx
          · omega
          · rcases List.mem_cons.mp hx with e | hx
            · omega
            · exact hb' x hx)
        exact ih
      · have ih := wfr_shf c k l ((d + 1) :: ds') e hp' h2 (fun x hx => by
          rcases List.mem_cons.mp hx with e | hx
          · omega
          · exact hb' x hx)
        exact ih
      · have h1 : t < ((c + d : Nat) : Int) := h1
        have ih := wfr_shf c k l ds' e hp' h2 hb'
        show wfr ((if 0 ≤ t ∧ t < 1000 ∧ (d : Int) ≤ t then t + (k : Int) else t) :: shf l (nd t d ++ ds') k) ((c + k + d) :: (ds'.map (c + k + ·) ++ e)) = some e
        have hnd : nd t d = [] := by unfold nd; rw [if_neg n1, if_neg n2]
        rw [hnd, List.nil_append]
        rw [wfr_step (n := [])]
        · exact ih
        · split
          · exact nxt_var (by omega) (by omega) (by omega)
          · exact nxt_var (by omega) (by omega) (by omega)
theorem wfr_sb (c : Nat) (arg : List Int) (ha : wfr arg [c] = some []) (hpa : ∀ t ∈ arg, t < 1000000) (hla : arg.length ≤ 200) : ∀ (l : List Int) (ds e : List Nat), (∀ t ∈ l, t < 1000000) → wfr l (ds.map (c + 1 + ·)) = some [] → (∀ d ∈ ds, c + d + l.length ≤ 500) → wfr (sb l ds arg) (ds.map (c + ·) ++ e) = some e
  | [], ds, e, hp, h, hb => by
    rw [wfr_nil] at h
    have : ds = [] := by simpa using h
    subst this
    exact wfr_nil e
  | t :: l, ds, e, hp, h, hb => by
    obtain ⟨c1, cs', n, e1, hn, h2⟩ := wfr_cons h
    cases ds with
    | nil => cases e1
    | cons d ds' =>
      cases e1
      have hp' : ∀ x ∈ l, x < 1000000 := fun x hx => hp x (List.mem_cons_of_mem _ hx)
      have hb0 := hb d List.mem_cons_self
      simp only [List.length_cons] at hb0
      have hb' : ∀ x ∈ ds', c + x + l.length ≤ 500 := fun x hx => by
        have := hb x (List.mem_cons_of_mem _ hx)
        simp only [List.length_cons] at this
        omega
      rcases nxt_plain (hp t List.mem_cons_self) hn with ⟨rfl, rfl⟩ | ⟨rfl, rfl⟩ | ⟨n1, n2, h0, h1, rfl⟩
      · have ih := wfr_sb c arg ha hpa hla l (d :: d :: ds') e hp' h2 (fun x hx => by
          rcases List.mem_cons.mp hx with e | hx
          · omega
          · rcases List.mem_cons.mp hx with e | hx
            · omega
            · exact hb' x hx)
        exact ih
      · have ih := wfr_sb c arg ha hpa hla l ((d + 1) :: ds') e hp' h2 (fun x hx => by
          rcases List.mem_cons.mp hx with e | hx
          · omega
          · exact hb' x hx)
        exact ih
      · have h1 : t < ((c + 1 + d : Nat) : Int) := h1
        have ih := wfr_sb c arg ha hpa hla l ds' e hp' h2 hb'
        show wfr (pce t d arg ++ sb l (nd t d ++ ds') arg) ((c + d) :: (ds'.map (c + ·) ++ e)) = some e
        have hnd : nd t d = [] := by unfold nd; rw [if_neg n1, if_neg n2]
        rw [hnd, List.nil_append, wfr_app]
        have key : wfr (pce t d arg) ((c + d) :: (ds'.map (c + ·) ++ e)) = some (ds'.map (c + ·) ++ e) := by
          unfold pce
          by_cases q1 : t < (d : Int)
          · rw [if_pos (Or.inr q1), wfr_step (nxt_var h0 (by omega) (by omega))]
            exact wfr_nil _
          · rw [if_neg (by omega)]
            by_cases q2 : t = (d : Int)
            · rw [if_pos q2]
              exact wfr_shf c d arg [0] _ hpa ha (fun x hx => by
                have : x = 0 := by simpa using hx
                omega)
            · rw [if_neg q2, wfr_step (nxt_var (by omega) (by omega) (by omega))]
              exact wfr_nil _
        rw [key]
        exact ih
