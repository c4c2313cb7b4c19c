/-! PURE 4: what a row that may run full stands for; replacing a free variable; steps and runs -/
def Rs (T : List Int × Int) (x : List Int) : Prop := (T.2 = 0 ∧ T.1 = x) ∨ (T.2 = 1 ∧ 200 < x.length)
theorem Rs_big {T : List Int × Int} {x y : List Int} (h : Rs T x) (h2 : T.2 ≠ 0) (hl : x.length ≤ y.length) : Rs T y := by
  rcases h with ⟨e, -⟩ | ⟨e, q⟩
  · exact absurd e h2
  · exact Or.inr ⟨e, by omega⟩
theorem dl_le : ∀ (l : List Int) (ds : List Nat) (M : Nat), (∀ d ∈ ds, d ≤ M) → ∀ x ∈ dl l ds, x ≤ M + l.length
  | [], ds, M, h => fun x hx => by rw [dl_nil] at hx; cases hx
  | t :: l, [], M, h => fun x hx => by
    rcases List.mem_cons.mp hx with e | e
    · omega
    · have := dl_le l [] M (fun d hd => by cases hd) x e
      simp only [List.length_cons]
      omega
  | t :: l, d :: ds, M, h => fun x hx => by
    rcases List.mem_cons.mp hx with e | e
    · have := h d List.mem_cons_self
      omega
    · have := dl_le l (nd t d ++ ds) (M + 1) (fun y hy => by
        have hd := h d List.mem_cons_self
        rcases List.mem_append.mp hy with q | q
        · unfold nd at q
          split at q
          · have : y = d := by simpa using q
            omega
          · split at q
            · have : y = d + 1 := by simpa using q
              omega
            · cases q
        · have := h y (List.mem_cons_of_mem _ q)
          omega) x e
      simp only [List.length_cons]
      omega
theorem dp_le (l : List Int) (i : Nat) : dp l i ≤ l.length := by
  unfold dp
  rcases Nat.lt_or_ge i (dl l [0]).length with h | h
  · rw [List.getD_eq_getElem?_getD, List.getElem?_eq_getElem h]
    have := dl_le l [0] 0 (fun d hd => by
      have : d = 0 := by simpa using hd
      omega) _ (List.getElem_mem h)
    show (dl l [0])[i] ≤ _
    omega
  · rw [List.getD_eq_getElem?_getD, List.getElem?_eq_none h]
    exact Nat.zero_le _
theorem One.pos {l : List Int} {c : Nat} (h : One l c) : 0 < l.length := wfr_le l _ h.1
/-! replacing a free variable -/
def pcr (t : Int) (d : Nat) (j : Int) (r : List Int) : List Int := if (0 ≤ t ∧ t < 1000) ∧ t - (d : Int) = j then shf r [0] d else [t]
def rp : List Int → List Nat → Int → List Int → List Int
  | [], _, _, _ => []
  | _ :: l, [], j, r => rp l [] j r
  | t :: l, d :: ds, j, r => pcr t d j r ++ rp l (nd t d ++ ds) j r
theorem rp_nil (ds : List Nat) (j : Int) (r : List Int) : rp [] ds j r = [] := by cases ds <;> rfl
theorem rp_app : ∀ (a b : List Int) (ds : List Nat) (j : Int) (r : List Int), rp (a ++ b) ds j r = rp a ds j r ++ rp b (stk a ds) j r
  | [], b, ds, j, r => by rw [List.nil_append, rp_nil, stk_nil]; rfl
  | t :: a, b, [], j, r => by
    have := rp_app a b [] j r
    rw [stk_e] at this ⊢
    exact this
  | t :: a, b, d :: ds, j, r => by
    show pcr t d j r ++ rp (a ++ b) (nd t d ++ ds) j r = (pcr t d j r ++ rp a (nd t d ++ ds) j r) ++ rp b (stk a (nd t d ++ ds)) j r
    rw [rp_app a b, List.append_assoc]
theorem rp_take {l r : List Int} {j : Int} {c i : Nat} (h : One l c) (hi : i < l.length) : rp (l.take (i + 1)) [0] j r = rp (l.take i) [0] j r ++ pcr (l.getD i 0) (dp l i) j r := by
  obtain ⟨ds, e⟩ := h.top hi
  rw [take_succ_getD hi, rp_app, e]
  show _ ++ (pcr _ _ j r ++ rp [] _ j r) = _
  rw [rp_nil, List.append_nil]
theorem wfr_rp (j : Int) (r : List Int) (hr : Gd r) : ∀ (l : List Int) (ds e : List Nat), (∀ t ∈ l, t < 1000000) → wfr l (ds.map (10 + ·)) = some [] → (∀ d ∈ ds, d + l.length ≤ 400) → wfr (rp l ds j r) (ds.map (10 + ·) ++ e) = some e
  | [], ds, e, hp, h, hb => by
    rw [wfr_nil] at h
    have : ds = [] := by simpa using h
    subst this
    exact wfr_nil e
  | t :: l, ds, e, hp, h, hb => by
    obtain ⟨c1, cs', n, e1, hn, h2⟩ := wfr_cons h
    cases ds with
    | nil => cases e1
    | cons d ds' =>
      cases e1
      have hp' : ∀ x ∈ l, x < 1000000 := fun x hx => hp x (List.mem_cons_of_mem _ hx)
      have hb0 := hb d List.mem_cons_self
      simp only [List.length_cons] at hb0
      have hb' : ∀ x ∈ ds', x + l.length ≤ 400 := fun x hx => by
        have := hb x (List.mem_cons_of_mem _ hx)
        simp only [List.length_cons] at this
        omega
      have hlr := hr.1
      rcases nxt_plain (hp t List.mem_cons_self) hn with ⟨rfl, rfl⟩ | ⟨rfl, rfl⟩ | ⟨n1, n2, h0, h1, rfl⟩
      · have ih := wfr_rp j r hr l (d :: d :: ds') e hp' h2 (fun x hx => by
          rcases List.mem_cons.mp hx with e | hx
          · omega
          · rcases List.mem_cons.mp hx with e | hx
            · omega
            · exact hb' x hx)
        show wfr (pcr 1000 d j r ++ rp l ([d, d] ++ ds') j r) _ = _
        have e0 : pcr 1000 d j r = [1000] := by unfold pcr; rw [if_neg (by omega)]
        rw [e0]
        exact ih
      · have ih := wfr_rp j r hr l ((d + 1) :: ds') e hp' h2 (fun x hx => by
          rcases List.mem_cons.mp hx with e | hx
          · omega
          · exact hb' x hx)
        show wfr (pcr 1001 d j r ++ rp l ([d + 1] ++ ds') j r) _ = _
        have e0 : pcr 1001 d j r = [1001] := by unfold pcr; rw [if_neg (by omega)]
        rw [e0]
        exact ih
      · have h1 : t < ((10 + d : Nat) : Int) := h1
        have ih := wfr_rp j r hr l ds' e hp' h2 hb'
        show wfr (pcr t d j r ++ rp l (nd t d ++ ds') j r) ((10 + d) :: (ds'.map (10 + ·) ++ e)) = some e
        have hnd : nd t d = [] := by unfold nd; rw [if_neg n1, if_neg n2]
        rw [hnd, List.nil_append, wfr_app]
        have key : wfr (pcr t d j r) ((10 + d) :: (ds'.map (10 + ·) ++ e)) = some (ds'.map (10 + ·) ++ e) := by
          unfold pcr
          split
          · exact wfr_shf 10 d r [0] _ hr.2.2 hr.2.1 (fun x hx => by
              have : x = 0 := by simpa using hx
              omega)
          · rw [wfr_step (nxt_var h0 (by omega) (by omega))]
            exact wfr_nil _
        rw [key]
        exact ih
theorem rp_plain {j : Int} {r : List Int} (hr : ∀ t ∈ r, t < 1000000) (hj : 0 ≤ j) : ∀ (l : List Int) (ds : List Nat), (∀ t ∈ l, t < 1000000) → ∀ t ∈ rp l ds j r, t < 1000000
  | [], ds, h => fun t ht => by rw [rp_nil] at ht; cases ht
  | x :: l, [], h => fun t ht => rp_plain hr hj l [] (fun y hy => h y (List.mem_cons_of_mem _ hy)) t ht
  | x :: l, d :: ds, h => fun t ht => by
    have ht : t ∈ pcr x d j r ++ rp l (nd x d ++ ds) j r := ht
    rcases List.mem_append.mp ht with e | e
    · have hx := h x List.mem_cons_self
      unfold pcr at e
      split at e
      · exact shf_plain (by omega) r [0] hr t e
      · have : t = x := by simpa using e
        omega
    · exact rp_plain hr hj l _ (fun y hy => h y (List.mem_cons_of_mem _ hy)) t e
theorem Gd_rp {l r : List Int} {j : Int} (h : Gd l) (hr : Gd r) (hj : 0 ≤ j) (hl : (rp l [0] j r).length ≤ 200) : Gd (rp l [0] j r) := by
  have h1 := h.1
  refine ⟨hl, ?_, rp_plain hr.2.2 hj l [0] h.2.2⟩
  have := wfr_rp j r hr l [0] [] h.2.2 h.2.1 (fun d hd => by
    have : d = 0 := by simpa using hd
    omega)
  exact this
/-! steps and runs -/
def ctO (l : List Int) (p : Int) : Option (List Int) := if tokA l p = 1000 ∧ tokA l (p + 1) = 1001 then (if (ctr l p.toNat).length ≤ 200 then some (ctr l p.toNat) else none) else none
theorem rx_int {l : List Int} {p : Int} (h : tokA l p = 1000 ∧ tokA l (p + 1) = 1001) : ∃ k : Nat, p = (k : Nat) ∧ rx l k := by
  have h1 : 0 ≤ p := by
    rcases Int.lt_or_le p 0 with q | q
    · have := h.1
      unfold tokA at this
      rw [if_neg (by omega)] at this
      omega
    · exact q
  obtain ⟨k, rfl⟩ := Int.eq_ofNat_of_zero_le h1
  exact ⟨k, rfl, h⟩
theorem Gd_ctO {l l' : List Int} {p : Int} (h : Gd l) (e : ctO l p = some l') : Gd l' := by
  unfold ctO at e
  split at e
  · rename_i h1
    split at e
    · rename_i h2
      cases e
      obtain ⟨k, rfl, hk⟩ := rx_int h1
      exact Gd_ctr h hk h2
    · cases e
  · cases e
def stepT (s : Int) (l : List Int) : Option (List Int) := ctO l (chz l s)
def runT (s : Int) : Nat → List Int → List Int × Nat
  | 0, l => (l, 0)
  | n + 1, l => match stepT s l with
    | none => (l, 0)
    | some l' => ((runT s n l').1, (runT s n l').2 + 1)
theorem runT_none {s : Int} {n : Nat} {l : List Int} (h : stepT s l = none) : runT s n l = (l, 0) := by
  cases n with
  | zero => rfl
  | succ n => unfold runT; rw [h]
theorem runT_some {s : Int} {n : Nat} {l l' : List Int} (h : stepT s l = some l') : runT s (n + 1) l = ((runT s n l').1, (runT s n l').2 + 1) := by
  rw [runT, h]
theorem runT_le (s : Int) : ∀ (n : Nat) (l : List Int), (runT s n l).2 ≤ n
  | 0, l => Nat.le_refl 0
  | n + 1, l => by
    cases h : stepT s l with
    | none => rw [runT_none h]; exact Nat.zero_le _
    | some l' =>
      rw [runT_some h]
      have := runT_le s n l'
      show (runT s n l').2 + 1 ≤ n + 1
      omega
theorem Gd_run (s : Int) : ∀ (n : Nat) (l : List Int), Gd l → Gd (runT s n l).1
  | 0, l, h => h
  | n + 1, l, h => by
    cases e : stepT s l with
    | none => rw [runT_none e]; exact h
    | some l' =>
      rw [runT_some e]
      exact Gd_run s n l' (Gd_ctO h e)
