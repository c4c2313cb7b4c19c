/-! more rules: booleans that are told by a proposition; ints of a cut point -/
theorem sZ {L : Nat → Option Value} {k : Nat} {a b : Int} {r : List (Option Value)} (h : L k = some (.int (zI a))) (e : a = b) (h2 : subL L (k + 1) r) : subL L k (some (.int (zI b)) :: r) := ⟨by rw [h, e], h2⟩
theorem bb_01 {P : Prop} [Decidable P] : (if P then 1 else 0 : Int) = 0 ∨ (if P then 1 else 0 : Int) = 1 := by
  by_cases h : P
  · exact Or.inr (if_pos h)
  · exact Or.inl (if_neg h)
theorem zb1 {P : Prop} [Decidable P] (h : P) : zI 1 = zI (if P then 1 else 0) := by rw [if_pos h]
theorem zb0 {P : Prop} [Decidable P] (h : ¬ P) : zI 0 = zI (if P then 1 else 0) := by rw [if_neg h]
theorem bb_rg {P : Prop} [Decidable P] : rg (if P then 1 else 0 : Int) := by
  by_cases h : P
  · rw [if_pos h]; decide
  · rw [if_neg h]; decide
section AB
variable {l : Launch} {G : Gm} {K : Cx} {cc : ByteArray} {nL : Nat} {own : String} {ret : Option FieldType} {rm : Room} {Q : Option Value → HP → Prop} {pc q t : Nat} {L : Nat → Option Value} {st : List Value} {c : HP}
theorem A_bne {P : Prop} {i : Decidable P} {off : Int} (X : Fx l G K cc nL own ret rm) (d : decode cc pc = .ok (.ifCond .ne off, 3)) (ht : (pc : Int) + off = (t : Int)) (hq : pc + 3 = q)
    (kt : P → AW G K Q t L st c) (kf : ¬ P → AW G K Q q L st c) : AW G K Q pc L (.int (zI (if P then 1 else 0)) :: st) c := by
  refine A_if_ne X d bb_rg ht hq (fun h => kt ?_) (fun h => kf ?_)
  · by_cases p : P
    · exact p
    · exact absurd (if_neg p) h
  · intro p
    exact h (by rw [if_pos p]; decide)
theorem A_beq {P : Prop} {i : Decidable P} {off : Int} (X : Fx l G K cc nL own ret rm) (d : decode cc pc = .ok (.ifCond .eq off, 3)) (ht : (pc : Int) + off = (t : Int)) (hq : pc + 3 = q)
    (kt : ¬ P → AW G K Q t L st c) (kf : P → AW G K Q q L st c) : AW G K Q pc L (.int (zI (if P then 1 else 0)) :: st) c := by
  refine A_if_eq X d bb_rg ht hq (fun h => kt ?_) (fun h => kf ?_)
  · intro p
    rw [if_pos p] at h
    exact absurd h (by decide)
  · by_cases p : P
    · exact p
    · exact absurd (if_neg p) h
end AB
theorem nI_get {α : Type} {l : List α} {k : Nat} {d : α} (h : k < l.length) : l.getD k d = l[k] := by
  rw [List.getD_eq_getElem?_getD, List.getElem?_eq_getElem h]
  rfl
