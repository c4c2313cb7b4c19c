/-! PURE 3: redexes, strategies, contraction -/
abbrev rx (l : List Int) (k : Nat) : Prop := tokA l (k : Nat) = 1000 ∧ tokA l ((k : Nat) + 1) = 1001
abbrev inn (l : List Int) (k : Nat) : Prop := rx l k ∧ ∀ j, j < en l k → k < j → ¬ rx l j
abbrev whP (l : List Int) (k : Nat) : Prop := rx l k ∧ ∀ j, j < k → tokA l (j : Nat) = 1000
def fnd (P : Nat → Prop) [DecidablePred P] : Nat → Int
  | 0 => -9
  | n + 1 => if fnd P n ≠ -9 then fnd P n else if P n then (n : Nat) else -9
def lst (P : Nat → Prop) [DecidablePred P] : Nat → Int
  | 0 => -9
  | n + 1 => if P n then (n : Nat) else lst P n
def cntP (P : Nat → Prop) [DecidablePred P] : Nat → Nat
  | 0 => 0
  | n + 1 => cntP P n + if P n then 1 else 0
theorem fnd_none {P : Nat → Prop} [DecidablePred P] : ∀ {n : Nat}, (∀ k, k < n → ¬ P k) → fnd P n = -9
  | 0, _ => rfl
  | n + 1, h => by
    have ih := fnd_none (n := n) (fun k hk => h k (by omega))
    unfold fnd
    rw [if_neg (by rw [ih]; exact fun z => z rfl), if_neg (h n (by omega))]
theorem fnd_some {P : Nat → Prop} [DecidablePred P] {k : Nat} (hp : P k) (hb : ∀ j, j < k → ¬ P j) : ∀ {n : Nat}, k < n → fnd P n = (k : Nat)
  | 0, h => absurd h (Nat.not_lt_zero k)
  | n + 1, h => by
    unfold fnd
    by_cases e : k < n
    · have ih := fnd_some hp hb e
      rw [if_pos (by rw [ih]; omega), ih]
    · have e2 : k = n := by omega
      subst e2
      rw [if_neg (by rw [fnd_none hb]; exact fun z => z rfl), if_pos hp]
theorem fnd_cases (P : Nat → Prop) [DecidablePred P] : ∀ n : Nat, (fnd P n = -9 ∧ ∀ k, k < n → ¬ P k) ∨ ∃ k, k < n ∧ fnd P n = (k : Nat) ∧ P k ∧ ∀ j, j < k → ¬ P j
  | 0 => Or.inl ⟨rfl, fun k h => absurd h (Nat.not_lt_zero k)⟩
  | n + 1 => by
    rcases fnd_cases P n with ⟨h1, h2⟩ | ⟨k, h1, h2, h3, h4⟩
    · by_cases hp : P n
      · exact Or.inr ⟨n, Nat.lt_succ_self n, fnd_some hp h2 (Nat.lt_succ_self n), hp, h2⟩
      · exact Or.inl ⟨fnd_none (fun k hk => by
          by_cases e : k = n
          · rw [e]; exact hp
          · exact h2 k (by omega)), fun k hk => by
          by_cases e : k = n
          · rw [e]; exact hp
          · exact h2 k (by omega)⟩
    · exact Or.inr ⟨k, by omega, fnd_some h3 h4 (by omega), h3, h4⟩
theorem lst_none {P : Nat → Prop} [DecidablePred P] : ∀ {n : Nat}, (∀ k, k < n → ¬ P k) → lst P n = -9
  | 0, _ => rfl
  | n + 1, h => by
    unfold lst
    rw [if_neg (h n (by omega))]
    exact lst_none (fun k hk => h k (by omega))
theorem lst_some {P : Nat → Prop} [DecidablePred P] {k : Nat} (hp : P k) : ∀ {n : Nat}, k < n → (∀ j, k < j → j < n → ¬ P j) → lst P n = (k : Nat)
  | 0, h, _ => absurd h (Nat.not_lt_zero k)
  | n + 1, h, hb => by
    unfold lst
    by_cases e : k = n
    · subst e
      rw [if_pos hp]
    · rw [if_neg (hb n (by omega) (by omega))]
      exact lst_some hp (by omega) (fun j h1 h2 => hb j h1 (by omega))
theorem lst_cases (P : Nat → Prop) [DecidablePred P] : ∀ n : Nat, (lst P n = -9 ∧ ∀ k, k < n → ¬ P k) ∨ ∃ k, k < n ∧ lst P n = (k : Nat) ∧ P k
  | 0 => Or.inl ⟨rfl, fun k h => absurd h (Nat.not_lt_zero k)⟩
  | n + 1 => by
    by_cases hp : P n
    · exact Or.inr ⟨n, Nat.lt_succ_self n, by unfold lst; rw [if_pos hp], hp⟩
    · have e : lst P (n + 1) = lst P n := by
        show (if P n then ((n : Nat) : Int) else lst P n) = _
        rw [if_neg hp]
      rcases lst_cases P n with ⟨h1, h2⟩ | ⟨k, h1, h2, h3⟩
      · refine Or.inl ⟨by rw [e]; exact h1, fun k hk => ?_⟩
        by_cases e : k = n
        · rw [e]; exact hp
        · exact h2 k (by omega)
      · exact Or.inr ⟨k, by omega, by rw [e]; exact h2, h3⟩
theorem cntP_le (P : Nat → Prop) [DecidablePred P] : ∀ n, cntP P n ≤ n
  | 0 => Nat.le_refl 0
  | n + 1 => by
    have := cntP_le P n
    unfold cntP
    split <;> omega
theorem cntP_zero {P : Nat → Prop} [DecidablePred P] : ∀ {n : Nat}, cntP P n = 0 ↔ ∀ k, k < n → ¬ P k
  | 0 => ⟨fun _ k h => absurd h (Nat.not_lt_zero k), fun _ => rfl⟩
  | n + 1 => by
    have ih := cntP_zero (P := P) (n := n)
    unfold cntP
    by_cases hp : P n
    · rw [if_pos hp]
      exact ⟨fun h => by omega, fun h => absurd hp (h n (by omega))⟩
    · rw [if_neg hp]
      constructor
      · intro h k hk
        by_cases e : k = n
        · rw [e]; exact hp
        · exact ih.mp (by omega) k (by omega)
      · intro h
        have := ih.mpr (fun k hk => h k (by omega))
        omega
def chz (l : List Int) (s : Int) : Int := if s = 0 then fnd (rx l) l.length else if s = 1 then fnd (inn l) l.length else if s = 2 then lst (rx l) l.length else if s = 3 then fnd (whP l) l.length else -9
theorem chz_cases (l : List Int) (s : Int) : chz l s = -9 ∨ ∃ k, k < l.length ∧ chz l s = (k : Nat) ∧ rx l k := by
  unfold chz
  split
  · rcases fnd_cases (rx l) l.length with ⟨h, -⟩ | ⟨k, h1, h2, h3, -⟩
    · exact Or.inl h
    · exact Or.inr ⟨k, h1, h2, h3⟩
  · split
    · rcases fnd_cases (inn l) l.length with ⟨h, -⟩ | ⟨k, h1, h2, h3, -⟩
      · exact Or.inl h
      · exact Or.inr ⟨k, h1, h2, h3.1⟩
    · split
      · rcases lst_cases (rx l) l.length with ⟨h, -⟩ | ⟨k, h1, h2, h3⟩
        · exact Or.inl h
        · exact Or.inr ⟨k, h1, h2, h3⟩
      · split
        · rcases fnd_cases (whP l) l.length with ⟨h, -⟩ | ⟨k, h1, h2, h3, -⟩
          · exact Or.inl h
          · exact Or.inr ⟨k, h1, h2, h3.1⟩
        · exact Or.inl rfl
theorem rx_lt {l : List Int} {k : Nat} (h : rx l k) : k + 1 < l.length ∧ l.getD k 0 = 1000 ∧ l.getD (k + 1) 0 = 1001 := by
  obtain ⟨h1, h2⟩ := h
  have e2 : k + 1 < l.length := by
    rcases Nat.lt_or_ge (k + 1) l.length with q | q
    · exact q
    · have := tokA_out q
      rw [show ((k + 1 : Nat) : Int) = (k : Nat) + 1 by omega] at this
      omega
  rw [tokA_in (by omega)] at h1
  rw [show ((k : Nat) : Int) + 1 = ((k + 1 : Nat) : Int) by omega, tokA_in e2] at h2
  exact ⟨e2, h1, h2⟩
theorem rx_of {l : List Int} {k : Nat} (h : k + 1 < l.length) (h1 : l.getD k 0 = 1000) (h2 : l.getD (k + 1) 0 = 1001) : rx l k := by
  refine ⟨?_, ?_⟩
  · rw [tokA_in (by omega)]; exact h1
  · rw [show ((k : Nat) : Int) + 1 = ((k + 1 : Nat) : Int) by omega, tokA_in h]; exact h2
/-- one term, plain -/
def One (l : List Int) (c : Nat) : Prop := wfr l [c] = some [] ∧ ∀ t ∈ l, t < 1000000
theorem Gd.one {l : List Int} (h : Gd l) : One l 10 := ⟨h.2.1, h.2.2⟩
theorem One.pnd {l : List Int} {c : Nat} (h : One l c) : ∀ i, i ≤ l.length → pnd l i (stk (l.take i) [0])
  | 0, _ => ⟨[c], h.1, rfl⟩
  | i + 1, hi => by
    obtain ⟨d, ds, e, q⟩ := pnd_step h.2 (by omega) (h.pnd i (by omega))
    rw [stk_take (by omega) e]
    exact q
theorem One.top {l : List Int} {c : Nat} (h : One l c) {i : Nat} (hi : i < l.length) : ∃ ds, stk (l.take i) [0] = dp l i :: ds := by
  obtain ⟨d, ds, e, -⟩ := pnd_step h.2 hi (h.pnd i (by omega))
  exact ⟨ds, by rw [dp_stk hi e]; exact e⟩
/-- the subterm at a place -/
def sub_ (l : List Int) (s : Nat) : List Int := (l.drop s).take (en l s - s)
theorem One.sub {l : List Int} {c : Nat} (h : One l c) {s : Nat} (hs : s < l.length) : ∃ c', One (sub_ l s) c' ∧ (sub_ l s).length = en l s - s ∧ ∀ i, i < en l s - s → dp l (s + i) = dp l s + dp (sub_ l s) i := by
  obtain ⟨ds, e1⟩ := h.top hs
  obtain ⟨cs, h1, h2⟩ := h.pnd s (by omega)
  rw [e1] at h2
  cases cs with
  | nil => cases h2
  | cons c' cs' =>
    obtain ⟨a, b, e2, h3, h4⟩ := wfr_split (l.drop s) [c'] cs' h1
    have e3 : en l s - s = a.length := by
      unfold en
      rw [e2]
      have := sk_wf a [c'] b h3
      have this : sk (a ++ b) 1 = a.length := this
      omega
    have e4 : sub_ l s = a := by
      unfold sub_
      rw [e3, e2, List.take_left]
    have hpa : ∀ t ∈ a, t < 1000000 := fun t ht => h.2 t (List.mem_of_mem_drop (i := s) (by rw [e2]; exact List.mem_append_left _ ht))
    rw [e4, e3]
    refine ⟨c', ⟨h3, hpa⟩, rfl, fun i hi => ?_⟩
    have e5 : l = l.take s ++ (a ++ b) := by rw [← e2]; exact (List.take_append_drop s l).symm
    have e6 : dl l [0] = dl (l.take s) [0] ++ (dl a (dp l s :: ds) ++ dl b (stk a (dp l s :: ds))) := by
      have : dl (l.take s ++ (a ++ b)) [0] = dl (l.take s) [0] ++ (dl a (dp l s :: ds) ++ dl b (stk a (dp l s :: ds))) := by rw [dl_app, e1, dl_app]
      rw [← e5] at this
      exact this
    have e7 : dl a (dp l s :: ds) = (dl a [0]).map (· + dp l s) := by
      have := dl_shift (dp l s) a [c'] [0] ds hpa h3 rfl
      simpa using this
    have hl1 : (dl (l.take s) [0]).length = s := by rw [dl_len, List.length_take]; omega
    show (dl l [0]).getD (s + i) 0 = _
    rw [e6, e7, List.getD_eq_getElem?_getD, List.getElem?_append_right (by omega), hl1, show s + i - s = i by omega, List.getElem?_append_left (by rw [List.length_map, dl_len]; exact hi), List.getElem?_map]
    have hi2 : i < (dl a [0]).length := by rw [dl_len]; exact hi
    rw [List.getElem?_eq_getElem hi2]
    show (dl a [0])[i] + dp l s = dp l s + dp a i
    unfold dp
    rw [List.getD_eq_getElem?_getD, List.getD_eq_getElem?_getD, List.getElem?_eq_getElem hi2]
    show (dl a [0])[i] + _ = _ + (dl a [0])[i]
    omega
theorem shf_app (k : Nat) : ∀ (a b : List Int) (ds : List Nat), shf (a ++ b) ds k = shf a ds k ++ shf b (stk a ds) k
  | [], b, ds => by
    rw [List.nil_append, stk_nil]
    cases ds <;> rfl
  | t :: a, b, [] => by
    have := shf_app k a b []
    rw [stk_e] at this ⊢
    exact congrArg (fun x => t :: x) this
  | t :: a, b, d :: ds => congrArg (fun x => _ :: x) (shf_app k a b (nd t d ++ ds))
def shT (t : Int) (d k : Nat) : Int := if 0 ≤ t ∧ t < 1000 ∧ (d : Int) ≤ t then t + (k : Int) else t
theorem shf_take {l : List Int} {c k i : Nat} (h : One l c) (hi : i < l.length) : shf (l.take (i + 1)) [0] k = shf (l.take i) [0] k ++ [shT (l.getD i 0) (dp l i) k] := by
  obtain ⟨ds, e⟩ := h.top hi
  rw [take_succ_getD hi, shf_app, e]
  rfl
theorem sb_take {l arg : List Int} {c i : Nat} (h : One l c) (hi : i < l.length) : sb (l.take (i + 1)) [0] arg = sb (l.take i) [0] arg ++ pce (l.getD i 0) (dp l i) arg := by
  obtain ⟨ds, e⟩ := h.top hi
  rw [take_succ_getD hi, sb_app, e]
  show _ ++ (pce _ _ arg ++ sb [] _ arg) = _
  rw [sb_nil, List.append_nil]
/-- what a redex at k becomes -/
def ctr (l : List Int) (k : Nat) : List Int := l.take k ++ (sb ((l.drop (k + 2)).take (en l (k + 1) - (k + 2))) [0] (sub_ l (en l (k + 1))) ++ l.drop (en l (en l (k + 1))))
theorem wfr_up : ∀ (a : List Int) (cs ds : List Nat) (M : Nat), (∀ t ∈ a, t < 1000000) → wfr a cs = some ds → (∀ c ∈ cs, c ≤ M) → ∀ c ∈ ds, c ≤ M + a.length
  | [], cs, ds, M, hp, h, hb => by
    rw [wfr_nil] at h
    cases h
    exact hb
  | t :: a, cs, ds, M, hp, h, hb => by
    obtain ⟨c, cs', n, rfl, hn, h2⟩ := wfr_cons h
    have ih := wfr_up a (n ++ cs') ds (M + 1) (fun x hx => hp x (List.mem_cons_of_mem _ hx)) h2 (fun x hx => by
      have hc := hb c List.mem_cons_self
      rcases List.mem_append.mp hx with q | q
      · rcases nxt_plain (hp t List.mem_cons_self) hn with ⟨-, rfl⟩ | ⟨-, rfl⟩ | ⟨-, -, -, -, rfl⟩
        · have : x = c := by simpa using q
          omega
        · have : x = c + 1 := by simpa using q
          omega
        · cases q
      · have := hb x (List.mem_cons_of_mem _ q)
        omega)
    intro x hx
    have := ih x hx
    simp only [List.length_cons]
    omega
theorem rx_split {l : List Int} {k : Nat} (h : Gd l) (hr : rx l k) : ∃ (c : Nat) (cs : List Nat) (body arg post : List Int), l = l.take k ++ 1000 :: 1001 :: (body ++ (arg ++ post)) ∧ wfr (l.take k) [10] = some (c :: cs) ∧ wfr body [c + 1] = some [] ∧ wfr arg [c] = some [] ∧ wfr post cs = some [] ∧ c ≤ 10 + k ∧ en l (k + 1) = k + 2 + body.length ∧ en l (en l (k + 1)) = k + 2 + body.length + arg.length ∧ k + 2 + body.length + arg.length + post.length = l.length := by
  obtain ⟨h1, h2, h3⟩ := rx_lt hr
  have e0 : l = l.take k ++ l.drop k := (List.take_append_drop k l).symm
  have e1 : l.drop k = 1000 :: 1001 :: l.drop (k + 2) := by rw [drop_cons (by omega), h2, drop_cons h1, h3]
  have w := h.2.1
  rw [e0, wfr_app] at w
  cases hw : wfr (l.take k) [10] with
  | none => rw [hw] at w; cases w
  | some cs0 =>
    rw [hw] at w
    have w : wfr (l.drop k) cs0 = some [] := w
    rw [e1] at w
    obtain ⟨c, cs, n, rfl, hn, w2⟩ := wfr_cons w
    cases hn
    obtain ⟨c1, cs1, n1, e, hn1, w3⟩ := wfr_cons w2
    cases e
    cases hn1
    have w3 : wfr (l.drop (k + 2)) ([c + 1] ++ ([c] ++ cs)) = some [] := w3
    obtain ⟨body, r1, e2, b1, b2⟩ := wfr_split _ _ _ w3
    obtain ⟨arg, post, e3, b3, b4⟩ := wfr_split _ _ _ b2
    subst e3
    have hlen : l.length = k + (2 + (body.length + (arg.length + post.length))) := by
      have q := congrArg List.length e0
      rw [List.length_append, List.length_take, e1] at q
      simp only [List.length_cons] at q
      rw [e2, List.length_append, List.length_append] at q
      omega
    have en1 : en l (k + 1) = k + 2 + body.length := by
      unfold en
      rw [drop_cons h1, h3, sk_1, e2]
      have := sk_wf body [c + 1] (arg ++ post) b1
      have this : sk (body ++ (arg ++ post)) 1 = body.length := this
      rw [prt_1001, this]
      omega
    have ed : l.drop (k + 2 + body.length) = arg ++ post := by
      rw [← List.drop_drop, e2, List.drop_left]
    have en2 : en l (en l (k + 1)) = k + 2 + body.length + arg.length := by
      rw [en1]
      unfold en
      rw [ed]
      have := sk_wf arg [c] post b3
      have this : sk (arg ++ post) 1 = arg.length := this
      rw [this]
    refine ⟨c, cs, body, arg, post, ?_, rfl, b1, b3, b4, ?_, en1, en2, by omega⟩
    · rw [← e2, ← e1]
      exact e0
    · have := wfr_up (l.take k) [10] (c :: cs) 10 (fun t ht => h.2.2 t (List.mem_of_mem_take ht)) hw (fun x hx => by
        have : x = 10 := by simpa using hx
        omega) c List.mem_cons_self
      rw [List.length_take] at this
      omega
theorem ctr_eq {l body arg post : List Int} {k : Nat} (e : l = l.take k ++ 1000 :: 1001 :: (body ++ (arg ++ post))) (hk : k + 2 ≤ l.length) (e1 : en l (k + 1) = k + 2 + body.length) (e2 : en l (en l (k + 1)) = k + 2 + body.length + arg.length) : (l.drop (k + 2)).take (en l (k + 1) - (k + 2)) = body ∧ sub_ l (en l (k + 1)) = arg ∧ l.drop (en l (en l (k + 1))) = post := by
  have ht : (l.take k).length = k := by rw [List.length_take]; omega
  have d2 : l.drop (k + 2) = body ++ (arg ++ post) := by
    have q : l.drop k = 1000 :: 1001 :: (body ++ (arg ++ post)) := by
      have := congrArg (List.drop k) e
      rw [this]
      exact List.drop_left' ht
    rw [← List.drop_drop, q]
    rfl
  have d3 : l.drop (k + 2 + body.length) = arg ++ post := by rw [← List.drop_drop, d2, List.drop_left]
  have d4 : l.drop (k + 2 + body.length + arg.length) = post := by rw [← List.drop_drop, d3, List.drop_left]
  refine ⟨?_, ?_, ?_⟩
  · rw [e1, d2, show k + 2 + body.length - (k + 2) = body.length by omega, List.take_left]
  · unfold sub_
    rw [e2, e1, d3, show k + 2 + body.length + arg.length - (k + 2 + body.length) = arg.length by omega, List.take_left]
  · rw [e2, d4]
theorem shf_plain {k : Nat} (hk : k ≤ 1000) : ∀ (l : List Int) (ds : List Nat), (∀ t ∈ l, t < 1000000) → ∀ t ∈ shf l ds k, t < 1000000
  | [], ds, h => fun t ht => by cases ds <;> cases ht
  | x :: l, [], h => fun t ht => by
    rcases List.mem_cons.mp ht with e | e
    · rw [e]; exact h x List.mem_cons_self
    · exact shf_plain hk l [] (fun y hy => h y (List.mem_cons_of_mem _ hy)) t e
  | x :: l, d :: ds, h => fun t ht => by
    have ht : t ∈ (if 0 ≤ x ∧ x < 1000 ∧ (d : Int) ≤ x then x + (k : Int) else x) :: shf l (nd x d ++ ds) k := ht
    rcases List.mem_cons.mp ht with e | e
    · rw [e]
      have := h x List.mem_cons_self
      split <;> omega
    · exact shf_plain hk l (nd x d ++ ds) (fun y hy => h y (List.mem_cons_of_mem _ hy)) t e
theorem sb_plain {arg : List Int} (ha : ∀ t ∈ arg, t < 1000000) : ∀ (l : List Int) (ds : List Nat), (∀ t ∈ l, t < 1000000) → ∀ t ∈ sb l ds arg, t < 1000000
  | [], ds, h => fun t ht => by rw [sb_nil] at ht; cases ht
  | x :: l, [], h => fun t ht => sb_plain ha l [] (fun y hy => h y (List.mem_cons_of_mem _ hy)) t ht
  | x :: l, d :: ds, h => fun t ht => by
    have ht : t ∈ pce x d arg ++ sb l (nd x d ++ ds) arg := ht
    rcases List.mem_append.mp ht with e | e
    · have hx := h x List.mem_cons_self
      unfold pce at e
      split at e
      · have : t = x := by simpa using e
        omega
      · split at e
        · exact shf_plain (by omega) arg [0] ha t e
        · have : t = x - 1 := by simpa using e
          omega
    · exact sb_plain ha l _ (fun y hy => h y (List.mem_cons_of_mem _ hy)) t e
theorem Gd_ctr {l : List Int} {k : Nat} (h : Gd l) (hr : rx l k) (hl : (ctr l k).length ≤ 200) : Gd (ctr l k) := by
  obtain ⟨c, cs, body, arg, post, e, w1, w2, w3, w4, hc, e1, e2, hn⟩ := rx_split h hr
  have h1 := (rx_lt hr).1
  obtain ⟨q1, q2, q3⟩ := ctr_eq e (by omega) e1 e2
  have hm : ∀ t ∈ body ++ (arg ++ post), t < 1000000 := fun t ht => h.2.2 t (by
    rw [e]
    exact List.mem_append_right _ (List.mem_cons_of_mem _ (List.mem_cons_of_mem _ ht)))
  have hpb : ∀ t ∈ body, t < 1000000 := fun t ht => hm t (List.mem_append_left _ ht)
  have hpa : ∀ t ∈ arg, t < 1000000 := fun t ht => hm t (List.mem_append_right _ (List.mem_append_left _ ht))
  have hpp : ∀ t ∈ post, t < 1000000 := fun t ht => hm t (List.mem_append_right _ (List.mem_append_right _ ht))
  have hlen := h.1
  refine ⟨hl, ?_, ?_⟩
  · unfold ctr
    rw [q1, q2, q3, wfr_app, w1]
    show wfr (sb body [0] arg ++ post) (c :: cs) = some []
    rw [wfr_app]
    have := wfr_sb c arg w3 hpa (by omega) body [0] cs hpb w2 (fun d hd => by
      have : d = 0 := by simpa using hd
      omega)
    have this : wfr (sb body [0] arg) (c :: cs) = some cs := this
    rw [this]
    exact w4
  · unfold ctr
    rw [q1, q2, q3]
    intro t ht
    rcases List.mem_append.mp ht with g | g
    · exact h.2.2 t (List.mem_of_mem_take g)
    · rcases List.mem_append.mp g with g | g
      · exact sb_plain hpa body [0] hpb t g
      · exact hpp t g
