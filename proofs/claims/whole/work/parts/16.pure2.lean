/-! PURE 2: ends, pending terms, good terms -/
def tokA (l : List Int) (p : Int) : Int := if 0 ≤ p ∧ p < (l.length : Nat) then l.getD p.toNat 0 else -1
theorem tokA_in {l : List Int} {k : Nat} (h : k < l.length) : tokA l (k : Nat) = l.getD k 0 := by
  unfold tokA
  rw [if_pos ⟨by omega, by omega⟩, Int.toNat_natCast]
theorem tokA_out {l : List Int} {k : Nat} (h : l.length ≤ k) : tokA l (k : Nat) = -1 := by
  unfold tokA
  rw [if_neg (by omega)]
def en (l : List Int) (i : Nat) : Nat := i + sk (l.drop i) 1
theorem drop_cons {l : List Int} {i : Nat} (h : i < l.length) : l.drop i = l.getD i 0 :: l.drop (i + 1) := by
  rw [nI_get h]
  exact List.drop_eq_getElem_cons h
theorem sk_1 (t : Int) (r : List Int) : sk (t :: r) 1 = 1 + sk r (prt t) := by
  show 1 + sk r (0 + prt t) = _
  rw [Nat.zero_add]
theorem en_ge (l : List Int) (i : Nat) : i ≤ en l i := Nat.le_add_right _ _
theorem en_le {l : List Int} {i : Nat} (h : i ≤ l.length) : en l i ≤ l.length := by
  have := sk_le (l.drop i) 1
  rw [List.length_drop] at this
  unfold en
  omega
theorem en_gt {l : List Int} {i : Nat} (h : i < l.length) : i < en l i := by
  unfold en
  rw [drop_cons h, sk_1]
  omega
theorem en_n (l : List Int) : en l l.length = l.length := by
  unfold en
  rw [List.drop_length, sk_nil]
  rfl
theorem en_var {l : List Int} {i : Nat} (h : i < l.length) (h0 : prt (l.getD i 0) = 0) : en l i = i + 1 := by
  unfold en
  rw [drop_cons h, sk_1, h0, sk_0]
theorem en_abs {l : List Int} {i : Nat} (h : i < l.length) (h0 : prt (l.getD i 0) = 1) : en l i = en l (i + 1) := by
  unfold en
  rw [drop_cons h, sk_1, h0]
  omega
theorem en_app {l : List Int} {i : Nat} (h : i < l.length) (h0 : prt (l.getD i 0) = 2) : en l i = en l (en l (i + 1)) := by
  unfold en
  rw [drop_cons h, sk_1, h0, show 2 = 1 + 1 from rfl, sk_add, List.drop_drop]
  omega
theorem prt_1000 : prt 1000 = 2 := rfl
theorem prt_1001 : prt 1001 = 1 := rfl
theorem prt_var {t : Int} (h1 : t ≠ 1000) (h2 : t ≠ 1001) (h3 : t < 1000000) : prt t = 0 := by
  unfold prt
  rw [if_neg (by omega), if_neg h1, if_neg h2]
/-- a good term: whole, plain, at most 200 tokens, its free variables below 10 -/
def Gd (l : List Int) : Prop := l.length ≤ 200 ∧ wfr l [10] = some [] ∧ ∀ t ∈ l, t < 1000000
theorem mem_getD {l : List Int} {i : Nat} (h : i < l.length) : l.getD i 0 ∈ l := by
  rw [nI_get h]
  exact List.getElem_mem h
theorem Gd.pos {l : List Int} (h : Gd l) : 0 < l.length := wfr_le l _ h.2.1
theorem Gd.tok {l : List Int} (h : Gd l) {t : Int} (ht : t ∈ l) : t = 1000 ∨ t = 1001 ∨ (0 ≤ t ∧ t < 210) := by
  have hp := h.2.2 t ht
  have := wfr_B (M := 209) l [10] h.2.1 (fun c hc => by
    have : c = 10 := by simpa using hc
    have := h.1
    simp only [List.length_cons, List.length_nil]
    omega) t ht
  rcases this with h | h | h | h
  · exact Or.inl h
  · exact Or.inr (Or.inl h)
  · omega
  · exact Or.inr (Or.inr ⟨h.1, by omega⟩)
theorem Gd.at {l : List Int} (h : Gd l) {i : Nat} (hi : i < l.length) : 0 ≤ l.getD i 0 ∧ l.getD i 0 ≤ 1001 := by
  have := h.tok (mem_getD hi)
  omega
theorem Gd.at2 {l : List Int} (h : Gd l) {i : Nat} (hi : i < l.length) : l.getD i 0 = 1000 ∨ l.getD i 0 = 1001 ∨ (0 ≤ l.getD i 0 ∧ l.getD i 0 < 210) := h.tok (mem_getD hi)
theorem Gd_tokA {l : List Int} (h : Gd l) (p : Int) : -1 ≤ tokA l p ∧ tokA l p ≤ 1001 := by
  unfold tokA
  split
  · have := h.at (i := p.toNat) (by omega)
    omega
  · omega
/-! pending terms -/
def pnd (l : List Int) (i : Nat) (ds : List Nat) : Prop := ∃ cs, wfr (l.drop i) cs = some [] ∧ cs.length = ds.length
theorem pnd_0 {l : List Int} (h : Gd l) : pnd l 0 [0] := ⟨[10], h.2.1, rfl⟩
theorem pnd_step {l : List Int} {i : Nat} {ds : List Nat} (hp : ∀ t ∈ l, t < 1000000) (hi : i < l.length) (h : pnd l i ds) : ∃ d ds', ds = d :: ds' ∧ pnd l (i + 1) (nd (l.getD i 0) d ++ ds') := by
  obtain ⟨cs, h1, h2⟩ := h
  rw [drop_cons hi] at h1
  obtain ⟨c, cs', n, rfl, hn, h3⟩ := wfr_cons h1
  cases ds with
  | nil => cases h2
  | cons d ds' =>
    refine ⟨d, ds', rfl, n ++ cs', h3, ?_⟩
    have h2 : cs'.length + 1 = ds'.length + 1 := h2
    rw [List.length_append, List.length_append, nd_len (d := d) (hp _ (mem_getD hi)) hn]
    omega
theorem pnd_end {l : List Int} {ds : List Nat} (h : pnd l l.length ds) : ds = [] := by
  obtain ⟨cs, h1, h2⟩ := h
  rw [List.drop_length, wfr_nil] at h1
  cases h1
  exact List.length_eq_zero_iff.mp h2.symm
theorem sk_wfk {m : List Int} {cs : List Nat} (h : wfr m cs = some []) {k : Nat} (hk : k < cs.length) : sk m k < sk m (k + 1) ∧ sk m k < m.length := by
  rw [← List.take_append_drop k cs] at h
  obtain ⟨a, b, rfl, h1, h2⟩ := wfr_split m _ _ h
  have e1 := sk_wf a _ b h1
  rw [List.length_take, Nat.min_eq_left (Nat.le_of_lt hk)] at e1
  have e2 := wfr_le b _ h2
  rw [List.length_drop] at e2
  rw [sk_add, e1, List.drop_left]
  cases b with
  | nil => simp at e2; omega
  | cons t b' =>
    rw [sk_1, List.length_append]
    simp only [List.length_cons]
    omega
theorem sk_mono {m : List Int} {cs : List Nat} (h : wfr m cs = some []) : ∀ (j k : Nat), k + j ≤ cs.length → sk m k + j ≤ sk m (k + j)
  | 0, k, _ => Nat.le_refl _
  | j + 1, k, hk => by
    have h1 := sk_mono h j k (by omega)
    have h2 := (sk_wfk h (k := k + j) (by omega)).1
    rw [show k + (j + 1) = k + j + 1 by omega]
    omega
/-- the depths that are laid ahead: the k-th pending term's place bears its depth -/
def ahd (l : List Int) (i : Nat) (ds : List Nat) (D : Nat → Int) : Prop := ∀ k, k < ds.length → D (i + sk (l.drop i) k) = (ds.getD k 0 : Nat)
theorem ahd_0 {l : List Int} {ds : List Nat} {i d : Nat} {D : Nat → Int} (h : ahd l i (d :: ds) D) : D i = (d : Nat) := by
  have := h 0 (Nat.zero_lt_succ _)
  rw [sk_0] at this
  exact this
theorem ahd_var {l : List Int} {i d : Nat} {ds : List Nat} {D : Nat → Int} (hi : i < l.length) (h0 : prt (l.getD i 0) = 0) (h : ahd l i (d :: ds) D) : ahd l (i + 1) ds D := fun k hk => by
  have := h (k + 1) (Nat.succ_lt_succ hk)
  rw [drop_cons hi] at this
  have e : sk (l.getD i 0 :: l.drop (i + 1)) (k + 1) = 1 + sk (l.drop (i + 1)) k := by
    show 1 + sk _ (k + prt _) = _
    rw [h0]
    rfl
  rw [e] at this
  rw [show i + 1 + sk (l.drop (i + 1)) k = i + (1 + sk (l.drop (i + 1)) k) by omega]
  exact this
theorem ahd_abs {l : List Int} {i d : Nat} {ds : List Nat} {D D' : Nat → Int} (hi : i < l.length) (h0 : prt (l.getD i 0) = 1) (hp : pnd l (i + 1) ((d + 1) :: ds)) (h : ahd l i (d :: ds) D) (h1 : D' (i + 1) = ((d + 1 : Nat) : Int)) (h2 : ∀ j, j ≠ i + 1 → D' j = D j) : ahd l (i + 1) ((d + 1) :: ds) D' := fun k hk => by
  obtain ⟨cs, w1, w2⟩ := hp
  cases k with
  | zero => rw [sk_0]; exact h1
  | succ k =>
    have hk' : k < ds.length := Nat.lt_of_succ_lt_succ hk
    have g := sk_mono w1 (k + 1) 0 (by rw [w2]; exact Nat.le_of_lt (by simpa using hk))
    rw [sk_0, Nat.zero_add] at g
    rw [h2 _ (by omega)]
    have := h (k + 1) (Nat.succ_lt_succ hk')
    rw [drop_cons hi] at this
    have e : sk (l.getD i 0 :: l.drop (i + 1)) (k + 1) = 1 + sk (l.drop (i + 1)) (k + 1) := by
      show 1 + sk _ (k + prt _) = _
      rw [h0]
    rw [e] at this
    rw [show i + 1 + sk (l.drop (i + 1)) (k + 1) = i + (1 + sk (l.drop (i + 1)) (k + 1)) by omega]
    exact this
theorem ahd_app {l : List Int} {i d : Nat} {ds : List Nat} {D D' : Nat → Int} (hi : i < l.length) (h0 : prt (l.getD i 0) = 2) (hp : pnd l (i + 1) (d :: d :: ds)) (h : ahd l i (d :: ds) D) (h1 : D' (i + 1) = ((d : Nat) : Int)) (h3 : D' (en l (i + 1)) = ((d : Nat) : Int)) (h2 : ∀ j, j ≠ i + 1 → j ≠ en l (i + 1) → D' j = D j) : ahd l (i + 1) (d :: d :: ds) D' := fun k hk => by
  obtain ⟨cs, w1, w2⟩ := hp
  have w2' : cs.length = ds.length + 2 := w2
  match k, hk with
  | 0, _ => rw [sk_0]; exact h1
  | 1, _ => exact h3
  | k + 2, hk =>
    have hk' : k < ds.length := by
      have : k + 2 < ds.length + 2 := hk
      omega
    have g := sk_mono w1 (k + 2) 0 (by omega)
    have g2 := sk_mono w1 (k + 1) 1 (by omega)
    rw [sk_0, Nat.zero_add] at g
    rw [show 1 + (k + 1) = k + 2 by omega] at g2
    rw [h2 _ (by omega) (by unfold en; omega)]
    have := h (k + 1) (Nat.succ_lt_succ hk')
    rw [drop_cons hi] at this
    have e : sk (l.getD i 0 :: l.drop (i + 1)) (k + 1) = 1 + sk (l.drop (i + 1)) (k + 2) := by
      show 1 + sk _ (k + prt _) = _
      rw [h0]
    rw [e] at this
    rw [show i + 1 + sk (l.drop (i + 1)) (k + 2) = i + (1 + sk (l.drop (i + 1)) (k + 2)) by omega]
    exact this
/-- the depth at a place -/
def dp (l : List Int) (i : Nat) : Nat := (dl l [0]).getD i 0
theorem take_succ_getD {l : List Int} {i : Nat} (h : i < l.length) : l.take (i + 1) = l.take i ++ [l.getD i 0] := by
  rw [nI_get h]
  exact (List.take_append_getElem h).symm
theorem stk_take {l : List Int} {i d : Nat} {ds : List Nat} (h : i < l.length) (hs : stk (l.take i) [0] = d :: ds) : stk (l.take (i + 1)) [0] = nd (l.getD i 0) d ++ ds := by
  rw [take_succ_getD h, stk_app, hs]
  exact stk_nil _
theorem dp_stk {l : List Int} {i d : Nat} {ds : List Nat} (h : i < l.length) (hs : stk (l.take i) [0] = d :: ds) : dp l i = d := by
  unfold dp
  have e : l = l.take i ++ l.drop i := (List.take_append_drop i l).symm
  have e2 : dl l [0] = dl (l.take i) [0] ++ dl (l.drop i) (d :: ds) := by
    conv => lhs; rw [e, dl_app, hs]
  rw [e2, List.getD_eq_getElem?_getD, List.getElem?_append_right (by rw [dl_len, List.length_take]; omega), dl_len, List.length_take, Nat.min_eq_left (Nat.le_of_lt h), Nat.sub_self, drop_cons h]
  rfl
