/-! PURE 5: the machine's rules on rows -/
def RsX (T : List Int × Int) (x : List Int) : Prop := (T.2 = 0 ∧ T.1 = x) ∨ (T.2 = 1 ∧ 300 < x.length)
theorem RsX_big {T : List Int × Int} {x y : List Int} (h : RsX T x) (h2 : T.2 ≠ 0) (hl : x.length ≤ y.length) : RsX T y := by
  rcases h with ⟨e, -⟩ | ⟨e, q⟩
  · exact absurd e h2
  · exact Or.inr ⟨e, by omega⟩
theorem RsX_add {T : List Int × Int} {x : List Int} (t : Int) (h : RsX T x) : RsX (xAdd T t) (x ++ [t]) := by
  unfold xAdd
  rcases h with ⟨e, rfl⟩ | ⟨e, q⟩
  · split
    · exact Or.inl ⟨e, rfl⟩
    · exact Or.inr ⟨rfl, by rw [List.length_append, List.length_singleton]; omega⟩
  · split
    · exact Or.inr ⟨e, by rw [List.length_append]; omega⟩
    · exact Or.inr ⟨rfl, by rw [List.length_append]; omega⟩
def sl (l : List Int) (i j : Nat) : List Int := (l.drop i).take (j - i)
theorem RsX_range {T : List Int × Int} {x l : List Int} {i j : Nat} (h : RsX T x) (hi : i ≤ j) (hj : j ≤ l.length) : RsX (xRange T l i j) (x ++ sl l i j) := by
  have el : (sl l i j).length = j - i := by unfold sl; rw [List.length_take, List.length_drop]; omega
  unfold xRange
  rcases h with ⟨e, rfl⟩ | ⟨e, q⟩
  · split
    · exact Or.inl ⟨e, rfl⟩
    · exact Or.inr ⟨rfl, by rw [List.length_append, el]; omega⟩
  · split
    · exact Or.inr ⟨e, by rw [List.length_append]; omega⟩
    · exact Or.inr ⟨rfl, by rw [List.length_append]; omega⟩
theorem sl_len {l : List Int} {i j : Nat} (hi : i ≤ j) (hj : j ≤ l.length) : (sl l i j).length = j - i := by unfold sl; rw [List.length_take, List.length_drop]; omega
theorem bh_0 (l : List Int) (s : Nat) : bh l s 0 = s := by unfold bh; rw [sk_0]; rfl
theorem bh_add (l : List Int) (s a b : Nat) : bh l s (a + b) = bh l (bh l s a) b := by
  unfold bh
  rw [sk_add, List.drop_drop]
  omega
theorem bh_ge (l : List Int) (s n : Nat) : s ≤ bh l s n := Nat.le_add_right _ _
theorem bh_le {l : List Int} {s : Nat} (n : Nat) (h : s ≤ l.length) : bh l s n ≤ l.length := by
  have := sk_le (l.drop s) n
  rw [List.length_drop] at this
  unfold bh
  omega
theorem bh_en (l : List Int) (s : Nat) : bh l s 1 = en l s := rfl
theorem bh_mono (l : List Int) (s a b : Nat) : bh l s a ≤ bh l s (a + b) := by rw [bh_add]; exact bh_ge _ _ _
/-- the pieces that the rules write -/
def abE (l : List Int) (f : Nat) : Nat → List Int
  | 0 => []
  | n + 1 => abE l f n ++ (clo 0 1 :: sl l (bh l f n) (bh l f (n + 1)))
def mgE (l : List Int) (b : Nat) (t : Int) (os oe : Nat) : Nat → List Int
  | 0 => []
  | n + 1 => mgE l b t os oe n ++ (t :: (sl l (bh l b n) (bh l b (n + 1)) ++ sl l os oe))
def pcB (l : List Int) (p : Nat) : List Int := clo 1 0 :: sl l (p + 2) (bh l p 1)
def pcA (l : List Int) (p : Nat) : List Int := 1000 :: l.getD p 0 :: (sl l (p + 2) (bh l (p + 2) 1) ++ (sl l (bh l (p + 2) 2) (bh l (p + 2) (2 + kn (l.getD p 0))) ++ (l.getD p 0 :: sl l (bh l (p + 2) 1) (bh l (p + 2) (2 + kn (l.getD p 0))))))
def pcL (l : List Int) (p : Nat) : List Int := 1001 :: clo (kn (l.getD p 0) + 1) (kh (l.getD p 0) + 1) :: (sl l (p + 2) (bh l (p + 2) 1) ++ (0 :: abE l (bh l (p + 2) 1) (kn (l.getD p 0))))
def pcK (l : List Int) (p : Nat) : List Int := if l.getD (p + 1) 0 < (kn (l.getD p 0) : Nat) then sl l (bh l (p + 2) (l.getD (p + 1) 0).toNat) (bh l (p + 2) ((l.getD (p + 1) 0).toNat + 1)) else [l.getD (p + 1) 0 - (kn (l.getD p 0) : Nat) + (kh (l.getD p 0) : Nat)]
def pcM (l : List Int) (p : Nat) : List Int :=
  clo (kn (l.getD (p + 1) 0) + kn (l.getD p 0) - min (kh (l.getD (p + 1) 0)) (kn (l.getD p 0))) (kh (l.getD (p + 1) 0) - min (kh (l.getD (p + 1) 0)) (kn (l.getD p 0)) + kh (l.getD p 0)) :: (sl l (p + 2) (bh l (p + 2) 1) ++
    (mgE l (bh l (p + 2) 1) (l.getD p 0) (bh l (p + 2) (1 + kn (l.getD (p + 1) 0))) (bh l (p + 2) (1 + kn (l.getD (p + 1) 0) + kn (l.getD p 0))) (kn (l.getD (p + 1) 0)) ++
      sl l (bh l (p + 2) (1 + kn (l.getD (p + 1) 0) + min (kh (l.getD (p + 1) 0)) (kn (l.getD p 0)))) (bh l (p + 2) (1 + kn (l.getD (p + 1) 0) + kn (l.getD p 0)))))
def pcR (l : List Int) (p : Nat) (r : Int) : List Int := if r = 0 then pcB l p else if r = 1 then pcA l p else if r = 2 then pcL l p else if r = 3 then pcK l p else pcM l p
def rwX (l : List Int) (p : Nat) (r : Int) : List Int := l.take p ++ (pcR l p r ++ l.drop (bh l p 1))
/-- the rule at a place -/
def rlZ (l : List Int) (p : Int) (mg : Prop) [Decidable mg] : Int :=
  if tkA l p = 1000 then (if tkA l (p + 1) = 1001 then 0 else -9) else if tkA l p ≠ 1002 then -9 else if tkA l (p + 1) = 1000 then 1 else if tkA l (p + 1) = 1001 then 2 else if tkA l (p + 1) = 1002 then (if mg then 4 else -9) else 3
/-- a good extended row -/
def XG (l : List Int) : Prop := l.length ≤ 300 ∧ wfr l [10] = some []
theorem XG.xb {l : List Int} (h : XG l) : XB l := fun t ht => by
  have := wfr_B (M := 309) l [10] h.2 (fun c hc => by
    have : c = 10 := by simpa using hc
    have := h.1
    simp only [List.length_cons, List.length_nil]
    omega) t ht
  rcases this with e | e | ⟨e1, e2, e3⟩ | ⟨e1, e2⟩
  · exact Or.inl e
  · exact Or.inr (Or.inl e)
  · exact Or.inr (Or.inr (Or.inl ⟨e1, by omega, by omega⟩))
  · exact Or.inr (Or.inr (Or.inr ⟨e1, by omega⟩))
theorem Gd.xg {l : List Int} (h : Gd l) : XG l := ⟨by have := h.1; omega, h.2.1⟩
theorem XG.at {l : List Int} (h : XG l) {p : Nat} (hp : p < l.length) : ∃ c cs n, wfr (l.take p) [10] = some (c :: cs) ∧ nxt (l.getD p 0) c = some n ∧ wfr (l.drop (p + 1)) (n ++ cs) = some [] := by
  have w := h.2
  rw [← List.take_append_drop p l, wfr_app] at w
  cases hw : wfr (l.take p) [10] with
  | none => rw [hw] at w; cases w
  | some cs0 =>
    rw [hw] at w
    have w : wfr (l.drop p) cs0 = some [] := w
    rw [drop_cons hp] at w
    obtain ⟨c, cs, n, rfl, hn, w2⟩ := wfr_cons w
    exact ⟨c, cs, n, rfl, hn, w2⟩
theorem XG.next {l : List Int} (h : XG l) {p : Nat} (hp : p < l.length) (h1 : 1 ≤ prt (l.getD p 0)) : p + 1 < l.length := by
  obtain ⟨c, cs, n, -, hn, w⟩ := h.at hp
  have h2 := wfr_le _ _ w
  rw [List.length_append, nxt_len hn, List.length_drop] at h2
  omega
theorem sl_app {l a b : List Int} {s : Nat} (h : l.drop s = a ++ b) : sl l s (s + a.length) = a := by
  unfold sl
  rw [h, Nat.add_sub_cancel_left, List.take_left]
theorem drop_app {l a b : List Int} {s : Nat} (h : l.drop s = a ++ b) : l.drop (s + a.length) = b := by
  rw [← List.drop_drop, h, List.drop_left]
theorem bh_app {l a b : List Int} {s : Nat} {cs : List Nat} (h : l.drop s = a ++ b) (hw : wfr a cs = some []) : bh l s cs.length = s + a.length := by
  unfold bh
  rw [h, sk_wf a cs b hw]
theorem wfr_repl {l : List Int} {p c : Nat} {cs : List Nat} {x post : List Int} (hw : wfr (l.take p) [10] = some (c :: cs)) (hx : wfr x [c] = some []) (hp : wfr post cs = some []) : wfr (l.take p ++ (x ++ post)) [10] = some [] := by
  rw [wfr_app, hw]
  show wfr (x ++ post) (c :: cs) = some []
  rw [wfr_app]
  have := wfr_tl x [c] [] cs hx
  have this : wfr x (c :: cs) = some cs := this
  rw [this]
  exact hp
theorem nxt_clo {n k c : Nat} (h : k < 1000) (hc : k ≤ c) : nxt (clo n k) c = some ((c - k + n) :: List.replicate n c) := by
  have h1 := clo_ge n k
  unfold nxt
  rw [if_neg (by omega), if_neg (by omega), if_pos h1, kh_clo h, kn_clo h, if_pos hc]
theorem nxt_closure {t : Int} {c : Nat} {n : List Nat} (ht : 1000000 ≤ t) (h : nxt t c = some n) : kh t ≤ c ∧ n = (c - kh t + kn t) :: List.replicate (kn t) c := by
  unfold nxt at h
  rw [if_neg (by omega), if_neg (by omega), if_pos ht] at h
  split at h
  · rename_i h1
    cases h
    exact ⟨h1, rfl⟩
  · cases h
theorem ent_wf {m : List Int} {c1 c2 : List Nat} {c : Nat} (h : wfr m (c1 ++ (c :: c2)) = some []) : wfr (sl m (sk m c1.length) (sk m (c1.length + 1))) [c] = some [] := by
  obtain ⟨a, b, rfl, h1, h2⟩ := wfr_split m _ _ h
  obtain ⟨a2, b2, rfl, h3, h4⟩ := wfr_split b [c] c2 h2
  have e1 := sk_wf a c1 (a2 ++ b2) h1
  have e2 : sk (a ++ (a2 ++ b2)) (c1.length + 1) = a.length + a2.length := by
    rw [sk_add, e1, List.drop_left]
    have := sk_wf a2 [c] b2 h3
    have this : sk (a2 ++ b2) 1 = a2.length := this
    rw [this]
  rw [e1, e2]
  unfold sl
  rw [List.drop_left, Nat.add_sub_cancel_left, List.take_left]
  exact h3
theorem sl_drop (l : List Int) (s i j : Nat) : sl (l.drop s) i j = sl l (s + i) (s + j) := by
  unfold sl
  rw [List.drop_drop, show s + j - (s + i) = j - i by omega]
theorem ent_rep {l post es : List Int} {s n c : Nat} (h : l.drop s = es ++ post) (hw : wfr es (List.replicate n c) = some []) {i : Nat} (hi : i < n) : wfr (sl l (bh l s i) (bh l s (i + 1))) [c] = some [] := by
  have e : List.replicate n c = List.replicate i c ++ (c :: List.replicate (n - i - 1) c) := by
    rw [← List.replicate_succ, List.replicate_append_replicate]
    congr 1
    omega
  rw [e] at hw
  have h1 := ent_wf hw
  rw [List.length_replicate] at h1
  have hkk : ∀ k, k ≤ n → sk (l.drop s) k = sk es k := fun k hk => by
    have hw2 := hw
    rw [← e] at hw2
    rw [show List.replicate n c = List.replicate k c ++ List.replicate (n - k) c by rw [List.replicate_append_replicate]; congr 1; omega] at hw2
    obtain ⟨a, b, rfl, q1, q2⟩ := wfr_split es _ _ hw2
    have z1 := sk_wf a _ b q1
    have z2 := sk_wf a _ (b ++ post) q1
    rw [List.length_replicate] at z1 z2
    rw [h, z1, List.append_assoc, z2]
  unfold bh
  rw [← sl_drop, hkk i (by omega), hkk (i + 1) (by omega), h]
  have z : sl (es ++ post) (sk es i) (sk es (i + 1)) = sl es (sk es i) (sk es (i + 1)) := by
    have l1 := sk_le es (i + 1)
    have l2 : sk es i ≤ sk es (i + 1) := by rw [sk_add]; omega
    unfold sl
    rw [List.drop_append_of_le_length (by omega), List.take_append_of_le_length (by rw [List.length_drop]; omega)]
  rw [z]
  exact h1
theorem rep_snoc (n c : Nat) : List.replicate (n + 1) c = List.replicate n c ++ [c] := by
  rw [show [c] = List.replicate 1 c from rfl, List.replicate_append_replicate]
theorem wfr_snoc {x y : List Int} {n c : Nat} (hx : wfr x (List.replicate n c) = some []) (hy : wfr y [c] = some []) : wfr (x ++ y) (List.replicate (n + 1) c) = some [] := by
  rw [rep_snoc, wfr_app, wfr_tl x _ [] [c] hx]
  exact hy
theorem abE_wf {l post es : List Int} {s n c : Nat} (h : l.drop s = es ++ post) (hw : wfr es (List.replicate n c) = some []) : ∀ i, i ≤ n → wfr (abE l s i) (List.replicate i (c + 1)) = some []
  | 0, _ => rfl
  | i + 1, hi => by
    refine wfr_snoc (abE_wf h hw i (by omega)) ?_
    rw [wfr_step (nxt_clo (by omega) (by omega))]
    exact ent_rep h hw (by omega)
theorem mgE_wf {l post es : List Int} {s n c d : Nat} {t : Int} {os oe : Nat} (ht : 1000000 ≤ t) (hk : kh t ≤ d) (h : l.drop s = es ++ post) (hw : wfr es (List.replicate n c) = some []) (hc : c = d - kh t + kn t) (ho : wfr (sl l os oe) (List.replicate (kn t) d) = some []) : ∀ i, i ≤ n → wfr (mgE l s t os oe i) (List.replicate i d) = some []
  | 0, _ => rfl
  | i + 1, hi => by
    refine wfr_snoc (mgE_wf ht hk h hw hc ho i (by omega)) ?_
    have e := nxt_clo (n := kn t) (kh_lt t) hk
    rw [clo_of ht] at e
    rw [wfr_step e, List.append_nil, wfr_app]
    have q := ent_rep h hw (i := i) (by omega)
    have q2 := wfr_tl _ _ _ (List.replicate (kn t) d) q
    have q2 : wfr (sl l (bh l s i) (bh l s (i + 1))) (c :: List.replicate (kn t) d) = some (List.replicate (kn t) d) := q2
    rw [← hc, q2]
    exact ho
