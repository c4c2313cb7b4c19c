/-! THE CALLS, on one abstract state: term, text, remembered terms (last first), two slots ([] is empty), observations, seed -/
abbrev SS : Type := List Int × List Int × List (List Int) × List Int × List Int × List (Int × Int) × Int64
def psh (hs : List (List Int)) (l : List Int) : List (List Int) := (l :: hs).take 14
/-- an action's end: the term l' in the place of the present one -/
def actS (S : SS) (l' : List Int) : SS := (l', S.2.1, psh S.2.2.1 S.1, S.2.2.2)
def sltS (S : SS) (k : Int) : List Int := if k = 0 then S.2.2.2.1 else S.2.2.2.2.1
def fAppend (t : Int) (S : SS) : Int × SS := if t < 0 ∨ 255 < t then (-2, S) else if S.2.1.length < 60 then (((S.2.1.length : Nat) : Int) + 1, (S.1, S.2.1 ++ [t], S.2.2)) else (-4, S)
def fClear (S : SS) : Int × SS := (((S.2.1.length : Nat) : Int), (S.1, [], S.2.2))
def fErr (S : SS) : Int × SS := (erf S.2.1 1 0, S)
def fLoad (S : SS) : Int × SS := if erf S.2.1 1 0 = -9 then (((S.2.1.length : Nat) : Int), (S.2.1.map tkc, S.2.1, [], [], [], S.2.2.2.2.2)) else (-3, S)
def fSize (S : SS) : Int × SS := (((S.1.length : Nat) : Int), S)
def fTok (p : Int) (S : SS) : Int × SS := (tokA S.1 p, S)
def nmZ (l : List Int) (p : Nat) : Int := if l.getD p 0 = 1000 then -9 else if l.getD p 0 = 1001 then 97 + ((dp l p : Nat) : Int) else if l.getD p 0 < ((dp l p : Nat) : Int) then 97 + ((dp l p : Nat) : Int) - 1 - l.getD p 0 else 65 + l.getD p 0 - ((dp l p : Nat) : Int)
def fName (p : Int) (S : SS) : Int × SS := if 0 ≤ p ∧ p < ((S.1.length : Nat) : Int) then (nmZ S.1 p.toNat, S) else (-1, S)
def fRedex (S : SS) : Int × SS := (((cntP (rx S.1) S.1.length : Nat) : Int), S)
def fChosen (s : Int) (S : SS) : Int × SS := if 0 ≤ s ∧ s < 4 then (chz S.1 s, S) else (-2, S)
def fvB (l : List Int) : Nat → Int32
  | 0 => zI 0
  | n + 1 => if (0 ≤ l.getD n 0 ∧ l.getD n 0 < 1000) ∧ 0 ≤ l.getD n 0 - ((dp l n : Nat) : Int) then fvB l n ||| (zI 1 <<< (zI (l.getD n 0 - ((dp l n : Nat) : Int)) &&& 31)) else fvB l n
def fStep (s : Int) (S : SS) : Int × SS := if 0 ≤ s ∧ s < 4 then (if chz S.1 s = -9 then (-3, S) else match stepT s S.1 with | none => (-4, S) | some l' => (((l'.length : Nat) : Int), actS S l')) else (-2, S)
def fRun (s n : Int) (S : SS) : Int × SS := if (0 ≤ s ∧ s < 4) ∧ 1 ≤ n ∧ n ≤ 50 then ((((runT s n.toNat S.1).2 : Nat) : Int), actS S (runT s n.toNat S.1).1) else (-2, S)
def fAbs (S : SS) : Int × SS := if S.1.length < 200 then (((S.1.length : Nat) : Int) + 1, actS S (1001 :: S.1)) else (-4, S)
def fApply (k : Int) (S : SS) : Int × SS := if k = 0 ∨ k = 1 then (if (sltS S k).length = 0 then (-3, S) else if (1000 :: (S.1 ++ sltS S k)).length ≤ 200 then ((((1000 :: (S.1 ++ sltS S k)).length : Nat) : Int), actS S (1000 :: (S.1 ++ sltS S k))) else (-4, S)) else (-1, S)
def fSubst (j k : Int) (S : SS) : Int × SS := if k = 0 ∨ k = 1 then (if 0 ≤ j ∧ j ≤ 9 then (if (sltS S k).length = 0 then (-3, S) else if (rp S.1 [0] j (sltS S k)).length ≤ 200 then ((((rp S.1 [0] j (sltS S k)).length : Nat) : Int), actS S (rp S.1 [0] j (sltS S k))) else (-4, S)) else (-2, S)) else (-1, S)
def fUndo (S : SS) : Int × SS := match S.2.2.1 with
  | [] => (-3, S)
  | l0 :: hs => (((hs.length : Nat) : Int), (l0, S.2.1, hs, S.2.2.2))
def okPr (s n : Int) : Prop := (0 ≤ s ∧ s < 4) ∧ 0 ≤ n ∧ n ≤ 200
def fSteps (s n : Int) (S : SS) : Int × SS := if (0 ≤ s ∧ s < 4) ∧ 0 ≤ n ∧ n ≤ 200 then ((((runT s n.toNat S.1).2 : Nat) : Int), S) else (-2, S)
def fAfter (s n : Int) (S : SS) : Int × SS := if (0 ≤ s ∧ s < 4) ∧ 0 ≤ n ∧ n ≤ 200 then ((((runT s n.toNat S.1).1.length : Nat) : Int), S) else (-2, S)
def nrm (l : List Int) : List Int := (runT 0 200 l).1
abbrev isN (l : List Int) : Prop := fnd (rx (nrm l)) (nrm l).length = -9
def fNSize (S : SS) : Int × SS := if isN S.1 then ((((nrm S.1).length : Nat) : Int), S) else (-9, S)
def fNTok (p : Int) (S : SS) : Int × SS := if isN S.1 then (tokA (nrm S.1) p, S) else (-9, S)
def fEquiv (k : Int) (S : SS) : Int × SS := if k = 0 ∨ k = 1 then (if (sltS S k).length = 0 then (-3, S) else if isN S.1 ∧ isN (sltS S k) then (if nrm S.1 = nrm (sltS S k) then (1, S) else (0, S)) else (-9, S)) else (-1, S)
def fMSteps (r m : Int) (S : SS) : Int × SS := if (0 ≤ r ∧ r ≤ 4) ∧ 0 ≤ m ∧ m ≤ 1 then (match mrun (m = 1) 600 S.1 (fun _ => 0) ((S.1.length : Nat) : Int) with | none => (-9, S) | some q => (q.1 r.toNat, S)) else (-2, S)
def fMPeak (m : Int) (S : SS) : Int × SS := if 0 ≤ m ∧ m ≤ 1 then (match mrun (m = 1) 600 S.1 (fun _ => 0) ((S.1.length : Nat) : Int) with | none => (-9, S) | some q => (q.2, S)) else (-2, S)
def fObserve (n v : Int) (S : SS) : Int × SS := if (0 ≤ n ∧ n ≤ 50) ∧ 1 ≤ v ∧ v ≤ 200 then ((((obA S.2.2.2.2.2.1 (n, v)).length : Nat) : Int), (S.1, S.2.1, S.2.2.1, S.2.2.2.1, S.2.2.2.2.1, obA S.2.2.2.2.2.1 (n, v), S.2.2.2.2.2.2)) else (-2, S)
def fForget (n : Int) (S : SS) : Int × SS := if 0 ≤ n ∧ n ≤ 50 then ((((obF S.2.2.2.2.2.1 n).length : Nat) : Int), (S.1, S.2.1, S.2.2.1, S.2.2.2.1, S.2.2.2.2.1, obF S.2.2.2.2.2.1 n, S.2.2.2.2.2.2)) else (-2, S)
def sdS (S : SS) (sd : Int64) : SS := (S.1, S.2.1, S.2.2.1, S.2.2.2.1, S.2.2.2.2.1, S.2.2.2.2.2.1, sd)
def fSave (k : Int) (S : SS) : Int × SS := if k = 0 ∨ k = 1 then (((S.1.length : Nat) : Int), (S.1, S.2.1, S.2.2.1, if k = 0 then S.1 else S.2.2.2.1, if k = 0 then S.2.2.2.2.1 else S.1, S.2.2.2.2.2)) else (-1, S)
def fRestore (k : Int) (S : SS) : Int × SS := if k = 0 ∨ k = 1 then (if (sltS S k).length = 0 then (-3, S) else ((((sltS S k).length : Nat) : Int), (sltS S k, S.2.1, [], S.2.2.2))) else (-1, S)
/-- what every state that is reached keeps to -/
def okS (S : SS) : Prop := Gd S.1 ∧ S.2.1.length ≤ 60 ∧ (∀ q ∈ S.2.2.1, Gd q) ∧ S.2.2.1.length ≤ 14 ∧ (S.2.2.2.1 = [] ∨ Gd S.2.2.2.1) ∧ (S.2.2.2.2.1 = [] ∨ Gd S.2.2.2.2.1)
theorem wfr_up1 : ∀ (l : List Int) (cs ds : List Nat), (∀ t ∈ l, t < 1000000) → wfr l cs = some ds → wfr l (cs.map (· + 1)) = some (ds.map (· + 1))
  | [], cs, ds, hp, h => by
    rw [wfr_nil] at h
    cases h
    exact wfr_nil _
  | t :: l, cs, ds, hp, h => by
    obtain ⟨c, cs', n, rfl, hn, h2⟩ := wfr_cons h
    have ih := wfr_up1 l _ ds (fun x hx => hp x (List.mem_cons_of_mem _ hx)) h2
    rw [List.map_append] at ih
    rcases nxt_plain (hp t List.mem_cons_self) hn with ⟨rfl, rfl⟩ | ⟨rfl, rfl⟩ | ⟨n1, n2, h0, h1, rfl⟩
    · exact ih
    · exact ih
    · rw [List.map_cons, wfr_step (n := [])]
      · exact ih
      · unfold nxt
        rw [if_neg n1, if_neg n2, if_neg (by have := hp t List.mem_cons_self; omega), if_pos ⟨h0, by omega⟩]
theorem Gd_abs {l : List Int} (h : Gd l) (hl : l.length < 200) : Gd (1001 :: l) := by
  refine ⟨by rw [List.length_cons]; omega, ?_, fun t ht => ?_⟩
  · rw [wfr_step (nxt_1001 10)]
    exact wfr_up1 l [10] [] h.2.2 h.2.1
  · rcases List.mem_cons.mp ht with e | e
    · rw [e]; decide
    · exact h.2.2 t e
theorem Gd_appl {l r : List Int} (h : Gd l) (hr : Gd r) (hl : (1000 :: (l ++ r)).length ≤ 200) : Gd (1000 :: (l ++ r)) := by
  refine ⟨hl, ?_, fun t ht => ?_⟩
  · rw [wfr_step (nxt_1000 10), wfr_app]
    have := wfr_tl l [10] [] [10] h.2.1
    have this : wfr l ([10, 10] ++ []) = some [10] := this
    rw [this]
    exact hr.2.1
  · rcases List.mem_cons.mp ht with e | e
    · rw [e]; decide
    · rcases List.mem_append.mp e with q | q
      · exact h.2.2 t q
      · exact hr.2.2 t q
theorem Gd_var0 : Gd [0] := ⟨by decide, rfl, fun t ht => by rw [List.mem_singleton.mp ht]; decide⟩
/-! the class's world -/
def WX (G : Gm) (c : HP) (S : SS) : Prop := G.2.1 = 72 ∧ c 0 = .inr (8, [.ref (G.1 1), .ref (G.1 3), .ref (G.1 5), .ref (G.1 7), .ref (G.1 9), .ref (G.1 11), .ref (G.1 14), .ref (G.1 23), .ref (G.1 33), .ref (G.1 36), .ref (G.1 38), .long S.2.2.2.2.2.2]) ∧
  (∃ T, Tm G c 1 2 T ∧ T.1 = S.1 ∧ T.2 = 0) ∧ Gd S.1 ∧ (∃ T, Tm G c 3 4 T) ∧ (∃ T, Tm G c 5 6 T) ∧ (∃ T, Tm G c 7 8 T ∧ T.1 = S.2.2.2.1 ∧ T.2 = 0) ∧ (S.2.2.2.1 = [] ∨ Gd S.2.2.2.1) ∧ (∃ T, Tm G c 9 10 T ∧ T.1 = S.2.2.2.2.1 ∧ T.2 = 0) ∧ (S.2.2.2.2.1 = [] ∨ Gd S.2.2.2.2.1) ∧
  (∃ n E D, Ol G c 11 12 13 n E D) ∧ Rd G c ∧ (∃ P Q X ap pk, Mc G c P Q X ap pk) ∧ Hs G c S.2.2.1 ∧ Tx G c S.2.1 ∧ Ob G c S.2.2.2.2.2.1
