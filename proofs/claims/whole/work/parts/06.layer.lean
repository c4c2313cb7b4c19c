/-! THE LAYER OF PICTURES. A heap is a function from places to cells (the place k lies at the address G.1 k); ints are images of whole numbers. -/
def zI (z : Int) : Int32 := Int32.ofInt z
def zJ (z : Int) : Int64 := Int64.ofInt z
abbrev rg (z : Int) : Prop := -2147483648 ≤ z ∧ z < 2147483648
theorem zI_toInt {z : Int} (h : rg z) : (zI z).toInt = z := by
  unfold zI
  rw [Int32.toInt_ofInt]
  have e : (Int32.size : Nat) = 4294967296 := rfl
  rw [e]
  exact Int.bmod_eq_of_le (by have := h.1; omega) (by have := h.2; omega)
theorem zI_of (x : Int32) : zI x.toInt = x := Int32.ofInt_toInt x
theorem zI_rg (x : Int32) : rg x.toInt := ⟨by have := Int32.le_toInt x; omega, by have := Int32.toInt_lt x; omega⟩
theorem zI_add (a b : Int) : zI a + zI b = zI (a + b) := (Int32.ofInt_add a b).symm
theorem zI_sub (a b : Int) : zI a - zI b = zI (a - b) := (Int32.ofInt_sub a b).symm
theorem zI_mul (a b : Int) : zI a * zI b = zI (a * b) := (Int32.ofInt_mul a b).symm
theorem zI_eq {a b : Int} (ha : rg a) (hb : rg b) : zI a = zI b ↔ a = b := ⟨fun h => by rw [← zI_toInt ha, ← zI_toInt hb, h], fun h => by rw [h]⟩
theorem zI_lt {a b : Int} (ha : rg a) (hb : rg b) : zI a < zI b ↔ a < b := by rw [Int32.lt_iff_toInt_lt, zI_toInt ha, zI_toInt hb]
theorem zI_le {a b : Int} (ha : rg a) (hb : rg b) : zI a ≤ zI b ↔ a ≤ b := by rw [Int32.le_iff_toInt_le, zI_toInt ha, zI_toInt hb]
theorem zI_0 : (0 : Int32) = zI 0 := rfl
theorem rg_0 : rg 0 := by decide
theorem zI_nI (n : Nat) : nI n = zI n := by
  unfold nI zI
  exact (Int32.ofInt_eq_ofNat).symm
theorem zI_cl {n : Nat} (h : n < 2147483648) : (zI n).toNatClampNeg = n := by rw [← zI_nI]; exact nI_clamp h
theorem zI_in {i : Int} {k n : Nat} (hi : i = k) (hk : k < n) (hn : n < 2147483648) : vp_in (zI i) n := by
  subst hi
  rw [← zI_nI]
  exact vp_in_nI hk hn
abbrev HP : Type := Nat → va_E
abbrev Gm : Type := (Nat → Nat) × Nat × va_G × ClassId × ClassId × ClassId
abbrev tyG (G : Gm) : List (ClassId × FieldType) := [(G.2.2.2.1, .int), (G.2.2.2.2.1, .boolean), (G.2.2.2.2.2, .array .int)]
def layG (G : Gm) (c : HP) : va_W := (List.range G.2.1).map (fun k => (G.1 k, c k))
def injG (G : Gm) : Prop := ∀ i j : Nat, i < G.2.1 → j < G.2.1 → G.1 i = G.1 j → i = j
def FA (G : Gm) : Nat → Prop := fun q => ∃ k, k < G.2.1 ∧ q = G.1 k
abbrev aI (G : Gm) (n : Nat) (F : Nat → Int) : va_E := .inl (G.2.2.2.1, n, .inl (fun k => zI (F k)))
abbrev aZ (G : Gm) (n : Nat) (F : Nat → Int) : va_E := .inl (G.2.2.2.2.1, n, .inl (fun k => zI (F k)))
abbrev aQ (G : Gm) (n : Nat) (f : Nat → Nat) : va_E := .inl (G.2.2.2.2.2, n, .inr (.inr (.inr (.inr (fun k => some (G.1 (f k)))))))
theorem layG_get {G : Gm} {c : HP} {k : Nat} (h : k < G.2.1) : (layG G c)[k]? = some (G.1 k, c k) := by
  unfold layG
  rw [List.getElem?_map, List.getElem?_range h]
  rfl
theorem layG_at {G : Gm} {c : HP} {k : Nat} {q : Nat × va_E} (h : (layG G c)[k]? = some q) : k < G.2.1 ∧ q = (G.1 k, c k) := by
  unfold layG at h
  rw [List.getElem?_map] at h
  rcases Nat.lt_or_ge k G.2.1 with g | g
  · rw [List.getElem?_range g] at h
    exact ⟨g, (Option.some.inj h).symm⟩
  · rw [List.getElem?_eq_none (by rw [List.length_range]; exact g)] at h
    cases h
theorem layG_set {G : Gm} {c : HP} {k : Nat} {e : va_E} (h : k < G.2.1) : (layG G c).set k (G.1 k, e) = layG G (va_up c k e) := by
  apply List.ext_getElem?
  intro i
  rw [List.getElem?_set]
  rcases Nat.lt_or_ge i G.2.1 with g | g
  · rw [layG_get g, layG_get g]
    by_cases hk : k = i
    · subst hk
      have hl : k < (layG G c).length := by unfold layG; rw [List.length_map, List.length_range]; exact h
      simp [va_up, hl]
    · have hk2 : ¬ i = k := fun z => hk z.symm
      simp [va_up, hk, hk2]
  · have e1 : ∀ c' : HP, (layG G c')[i]? = none := fun c' => by
      unfold layG
      rw [List.getElem?_map, List.getElem?_eq_none (by rw [List.length_range]; exact g)]
      rfl
    rw [e1, e1]
    by_cases hk : k = i
    · subst hk; omega
    · simp [hk]
theorem layG_D {G : Gm} (h : injG G) (c : HP) : va_D (FA G) (layG G c) := by
  refine ⟨fun i j p q hp hq e => ?_, fun k q hq => ?_⟩
  · obtain ⟨h1, rfl⟩ := layG_at hp
    obtain ⟨h2, rfl⟩ := layG_at hq
    exact h i j h1 h2 e
  · obtain ⟨h1, rfl⟩ := layG_at hq
    exact ⟨k, h1, rfl⟩
theorem upd_zI (F : Nat → Int) (j : Nat) (v : Int) : upd (fun k => zI (F k)) j (zI v) = fun k => zI (va_up F j v k) := by
  funext k
  unfold upd va_up
  split <;> rfl
theorem lk_eq {α : Type} {c : Nat → α} {h : Nat} {v : α} : va_up c h v h = v := if_pos rfl
theorem lk_ne {α : Type} {c : Nat → α} {h k : Nat} {v e : α} (n : k ≠ h) (q : c k = e) : va_up c h v k = e := (if_neg n).trans q
/-! locals -/
def lvf (ls : Array Slot) (nL : Nat) (L : Nat → Option Value) : Prop := ∃ l : List (Nat × Value), lv_has ls nL l ∧ ∀ i v, L i = some v → (i, v) ∈ l
abbrev stL (L : Nat → Option Value) (i : Nat) (v : Value) : Nat → Option Value := fun j => if j = i then some v else L j
abbrev stL2 (L : Nat → Option Value) (i : Nat) (v : Value) : Nat → Option Value := fun j => if j = i then some v else if j = i + 1 then none else L j
def okP (L : Nat → Option Value) (i : Nat) : Prop := ∀ k v, k + 1 = i → L k = some v → v.category = 1
theorem okP_0 {L : Nat → Option Value} : okP L 0 := fun k v h => by omega
theorem okP_n {L : Nat → Option Value} {k : Nat} (h : L k = none) : okP L (k + 1) := fun k' v e h' => by
  have : k' = k := by omega
  subst this
  rw [h] at h'
  cases h'
theorem okP_s {L : Nat → Option Value} {k : Nat} {w : Value} (h : L k = some w) (hw : w.category = 1) : okP L (k + 1) := fun k' v e h' => by
  have : k' = k := by omega
  subst this
  rw [h] at h'
  cases h'
  exact hw
abbrev mkL (l : List (Option Value)) : Nat → Option Value := fun i => (l[i]?).join
def subL (L : Nat → Option Value) : Nat → List (Option Value) → Prop
  | _, [] => True
  | k, none :: r => subL L (k + 1) r
  | k, some v :: r => L k = some v ∧ subL L (k + 1) r
theorem sE {L : Nat → Option Value} {k : Nat} : subL L k [] := trivial
theorem sN {L : Nat → Option Value} {k : Nat} {r : List (Option Value)} (h : subL L (k + 1) r) : subL L k (none :: r) := h
theorem sS {L : Nat → Option Value} {k : Nat} {v : Value} {r : List (Option Value)} (h : L k = some v) (h2 : subL L (k + 1) r) : subL L k (some v :: r) := ⟨h, h2⟩
theorem subL_get {L : Nat → Option Value} : ∀ (l : List (Option Value)) (k : Nat), subL L k l → ∀ i v, mkL l i = some v → L (k + i) = some v
  | [], k, _, i, v, h => by simp [mkL] at h
  | none :: r, k, h, 0, v, h2 => by simp [mkL] at h2
  | some w :: r, k, h, 0, v, h2 => by
    have : w = v := by simpa [mkL] using h2
    subst this
    exact h.1
  | none :: r, k, h, i + 1, v, h2 => by
    have := subL_get r (k + 1) h i v (by simpa [mkL] using h2)
    rw [show k + (i + 1) = k + 1 + i by omega]
    exact this
  | some w :: r, k, h, i + 1, v, h2 => by
    have := subL_get r (k + 1) h.2 i v (by simpa [mkL] using h2)
    rw [show k + (i + 1) = k + 1 + i by omega]
    exact this
theorem lvf_at {ls : Array Slot} {nL : Nat} {L : Nat → Option Value} (h : lvf ls nL L) {i : Nat} {v : Value} (hv : L i = some v) : ls[i]? = some (.val v) := by
  obtain ⟨l, h1, h2⟩ := h
  exact h1.2.2 (i, v) (h2 i v hv)
theorem lvf_st {l : List (Nat × Value)} {L : Nat → Option Value} {i : Nat} {w : Value} (h2 : ∀ i v, L i = some v → (i, v) ∈ l) (hp : okP L i) :
    ∀ j v, stL L i w j = some v → (j, v) ∈ ((i, w) :: l.filter (fun q => !(q.1 == i) && !(q.1 + 1 == i && q.2.category == 2))) := by
  intro j v h
  by_cases e : j = i
  · subst e
    have : w = v := by simpa [stL] using h
    subst this
    exact List.mem_cons_self
  · have h3 : L j = some v := by simpa [stL, e] using h
    refine List.mem_cons_of_mem _ (List.mem_filter.mpr ⟨h2 j v h3, ?_⟩)
    by_cases e2 : j + 1 = i
    · have := hp j v e2 h3
      simp [e, e2, this]
    · simp [e, e2]
theorem lvf_st2 {l : List (Nat × Value)} {L : Nat → Option Value} {i : Nat} {w : Value} (h2 : ∀ i v, L i = some v → (i, v) ∈ l) (hp : okP L i) :
    ∀ j v, stL2 L i w j = some v → (j, v) ∈ ((i, w) :: l.filter (fun q => !(q.1 == i) && (!(q.1 == i + 1) && !(q.1 + 1 == i && q.2.category == 2)))) := by
  intro j v h
  by_cases e : j = i
  · subst e
    have : w = v := by simpa [stL2] using h
    subst this
    exact List.mem_cons_self
  · by_cases e3 : j = i + 1
    · simp [stL2, e, e3] at h
    · have h3 : L j = some v := by simpa [stL2, e, e3] using h
      refine List.mem_cons_of_mem _ (List.mem_filter.mpr ⟨h2 j v h3, ?_⟩)
      by_cases e2 : j + 1 = i
      · have := hp j v e2 h3
        simp [e, e2, e3, this]
      · simp [e, e2, e3]
/-! the judgement -/
abbrev Cx : Type := Program × Launch × Env × Room × State × MethodId × Array Value × List Frame × Method × Code
def PQ (G : Gm) (Q : Option Value → HP → Prop) : Array Value → State → Outcome → State → Prop := fun _ st o t => ∃ (r : Option Value) (c : HP), o = .returned r ∧ Q r c ∧ va_P G.2.2.1 vwCl (layG G c) t.heap ∧ va_F (FA G) st t
def AW (G : Gm) (K : Cx) (Q : Option Value → HP → Prop) (pc : Nat) (L : Nat → Option Value) (st : List Value) (c : HP) : Prop :=
  match K with
  | (p, l, e, R, s, m, args, below, meth, cd) => ∀ (H : Heap) (locs : List Loc) (ls : Array Slot), va_P G.2.2.1 vwCl (layG G c) H → va_S (FA G) s.heap H locs → lvf ls cd.maxLocals L →
      W p l e R s m args below meth cd H locs 0 0 (MQ below (PQ G Q) args s 0 0 (FA G)) (F0 m pc ls st)
def nsts : List (String × Nat × MethodName) := [(RX0, 43, yX8_parts), (RX5, 54, yX8_parts), (RX5, 92, yX8_isVariable), (RX7, 23, yX8_parts), (RX8, 9, yX6_init), (RX8, 30, yX4_init), (RX8, 37, yX5_init), (RX8, 44, yX2_init), (RX8, 51, yX1_init), (RX8, 58, yX7_init), (RX8, 65, yX3_init), (RX2, 11, yX0_init), (RX5, 11, yX4_init), (RX5, 23, yX6_init)]
def nsK (U : State) : Prop := ∀ q ∈ nsts, va_Nw (.methodLinkNest q.1 q.2.1 q.2.2 RX8) U
theorem nsK.warm {s U : State} (hW : s.WarmedH U.vm) (h : nsK s) : nsK U := fun q hq => va_Nw.warmM hW (h q hq)
theorem nsK.same {s U : State} (hv : s.vm = U.vm) (h : nsK s) : nsK U := fun q hq => va_Nw.same rfl hv (h q hq)
def Fx (l : Launch) (G : Gm) (K : Cx) (cc : ByteArray) (nL : Nat) (own : String) (ret : Option FieldType) (rm : Room) : Prop :=
  match K with
  | (p, l', _, R, s, m, args, _, meth, cd) => p.tables.exec = Jvm.exec ∧ cd.code = cc ∧ cd.maxLocals = nL ∧ s.vm.findClass own = some m.cls ∧ (∀ w ∈ wsL_law, w.before args s = true) ∧ va_K G.2.2.1 vwCl (tyG G) s ∧ injG G ∧ meth.sig.returnType = ret ∧ meth.locks = false ∧ R = rm ∧ l' = l ∧ nsK s
def Qi (Q : Int32 → HP → Prop) : Option Value → HP → Prop := fun r c => ∃ v : Int32, r = some (.int v) ∧ Q v c
def Ql (Q : Int64 → HP → Prop) : Option Value → HP → Prop := fun r c => ∃ v : Int64, r = some (.long v) ∧ Q v c
def Qr (G : Gm) (Q : Nat → HP → Prop) : Option Value → HP → Prop := fun r c => ∃ k : Nat, r = some (.ref (G.1 k)) ∧ Q k c
def Qv (Q : HP → Prop) : Option Value → HP → Prop := fun r c => r = none ∧ Q c
abbrev rmR (f lo : Nat) : Room := { frames := f, cells := 0, slots := 0, locals := lo }
def AMet (l : Launch) (G : Gm) (y : MethodName) (cc : ByteArray) (nL : Nat) (ret : Option FieldType) (rm : Room) (args : List Value) (c : HP) (Q : Option Value → HP → Prop) : Prop :=
  Met l y (.code y cc nL ret :: wsL_law) rm (va_Pc args (fun U => va_P G.2.2.1 vwCl (layG G c) U.heap ∧ va_K G.2.2.1 vwCl (tyG G) U ∧ nsK U)) (PQ G Q) 0 0 (FA G)
section AL
variable {l : Launch} {G : Gm} {K : Cx} {cc : ByteArray} {nL : Nat} {own : String} {ret : Option FieldType} {rm : Room} {Q : Option Value → HP → Prop} {pc q : Nat} {L : Nat → Option Value} {st : List Value} {c : HP}
/-- fewer locals -/
theorem AW.loc {l : List (Option Value)} (h : subL L 0 l) (k : AW G K Q pc (mkL l) st c) : AW G K Q pc L st c := by
  obtain ⟨p, l', e, R, s, m, args, below, meth, cd⟩ := K
  intro H locs ls hP hS hl
  obtain ⟨l2, h1, h2⟩ := hl
  exact k H locs ls hP hS ⟨l2, h1, fun i v hv => h2 i v (by have := subL_get _ 0 h i v hv; rwa [Nat.zero_add] at this)⟩

theorem A_iconst {n : Int} (X : Fx l G K cc nL own ret rm) (d : decode cc pc = .ok (.iconst n, 1)) (hq : pc + 1 = q)
    (kk : AW G K Q q (L) (.int (zI n) :: st) c) : AW G K Q pc L (st) c := by
  subst hq
  obtain ⟨p, l1, e, R, s, m, args, below, meth, cd⟩ := K
  obtain ⟨hx, hb, hml, hown, hts, hK, hinj, hr, hlocks, hR, hl1, hns⟩ := X
  intro H locs ls hP hS hl
  exact lv_iconst hx hb d rfl (kk H locs ls hP hS hl)
theorem A_bipush {n : Int} (X : Fx l G K cc nL own ret rm) (d : decode cc pc = .ok (.bipush n, 2)) (hv : (Int8.ofInt n).toInt32 = zI n) (hq : pc + 2 = q)
    (kk : AW G K Q q (L) (.int (zI n) :: st) c) : AW G K Q pc L (st) c := by
  subst hq
  obtain ⟨p, l1, e, R, s, m, args, below, meth, cd⟩ := K
  obtain ⟨hx, hb, hml, hown, hts, hK, hinj, hr, hlocks, hR, hl1, hns⟩ := X
  intro H locs ls hP hS hl
  exact lv_bipush hx hb d hv (kk H locs ls hP hS hl)
theorem A_sipush {n : Int} (X : Fx l G K cc nL own ret rm) (d : decode cc pc = .ok (.sipush n, 3)) (hv : (Int16.ofInt n).toInt32 = zI n) (hq : pc + 3 = q)
    (kk : AW G K Q q (L) (.int (zI n) :: st) c) : AW G K Q pc L (st) c := by
  subst hq
  obtain ⟨p, l1, e, R, s, m, args, below, meth, cd⟩ := K
  obtain ⟨hx, hb, hml, hown, hts, hK, hinj, hr, hlocks, hR, hl1, hns⟩ := X
  intro H locs ls hP hS hl
  exact lv_sipush hx hb d hv (kk H locs ls hP hS hl)
theorem A_lconst {n : Fin 2} {v : Int64} (X : Fx l G K cc nL own ret rm) (d : decode cc pc = .ok (.lconst n, 1)) (hv : Int64.ofNat (n : Nat) = v) (hq : pc + 1 = q)
    (kk : AW G K Q q (L) (.long v :: st) c) : AW G K Q pc L (st) c := by
  subst hq
  obtain ⟨p, l1, e, R, s, m, args, below, meth, cd⟩ := K
  obtain ⟨hx, hb, hml, hown, hts, hK, hinj, hr, hlocks, hR, hl1, hns⟩ := X
  intro H locs ls hP hS hl
  exact lv_lconst hx hb d hv (kk H locs ls hP hS hl)
theorem A_ldc {index : Nat} {v : Int32} {n : Int} (X : Fx l G K cc nL own ret rm) (d : decode cc pc = .ok (.ldc index, 2)) (hc : Cond.constant own index v ∈ wsL_law) (hv : v = zI n) (hq : pc + 2 = q)
    (kk : AW G K Q q (L) (.int (zI n) :: st) c) : AW G K Q pc L (st) c := by
  subst hq
  obtain ⟨p, l1, e, R, s, m, args, below, meth, cd⟩ := K
  obtain ⟨hx, hb, hml, hown, hts, hK, hinj, hr, hlocks, hR, hl1, hns⟩ := X
  intro H locs ls hP hS hl
  exact lv_ldc hx hb hown (hts _ hc) d (by rw [hv]; exact kk H locs ls hP hS hl)
theorem A_ldc2 {index : Nat} {v : Int64} (X : Fx l G K cc nL own ret rm) (d : decode cc pc = .ok (.ldc2_w index, 3)) (hc : Cond.constantLong own index v ∈ wsL_law) (hq : pc + 3 = q)
    (kk : AW G K Q q (L) (.long v :: st) c) : AW G K Q pc L (st) c := by
  subst hq
  obtain ⟨p, l1, e, R, s, m, args, below, meth, cd⟩ := K
  obtain ⟨hx, hb, hml, hown, hts, hK, hinj, hr, hlocks, hR, hl1, hns⟩ := X
  intro H locs ls hP hS hl
  exact lv_ldc2 hx hb hown (hts _ hc) d (kk H locs ls hP hS hl)
theorem A_iload_n {k : Fin 4} {x : Int32} (X : Fx l G K cc nL own ret rm) (d : decode cc pc = .ok (.iload_n k, 1)) (h : L (k : Nat) = some (.int x)) (hq : pc + 1 = q)
    (kk : AW G K Q q (L) (.int x :: st) c) : AW G K Q pc L (st) c := by
  subst hq
  obtain ⟨p, l1, e, R, s, m, args, below, meth, cd⟩ := K
  obtain ⟨hx, hb, hml, hown, hts, hK, hinj, hr, hlocks, hR, hl1, hns⟩ := X
  intro H locs ls hP hS hl
  exact lv_iload_n hx hb d rfl (lvf_at hl h) (kk H locs ls hP hS hl)
theorem A_iload {i : Nat} {x : Int32} (X : Fx l G K cc nL own ret rm) (d : decode cc pc = .ok (.iload i, 2)) (h : L i = some (.int x)) (hq : pc + 2 = q)
    (kk : AW G K Q q (L) (.int x :: st) c) : AW G K Q pc L (st) c := by
  subst hq
  obtain ⟨p, l1, e, R, s, m, args, below, meth, cd⟩ := K
  obtain ⟨hx, hb, hml, hown, hts, hK, hinj, hr, hlocks, hR, hl1, hns⟩ := X
  intro H locs ls hP hS hl
  exact lv_iload hx hb d (lvf_at hl h) (kk H locs ls hP hS hl)
theorem A_lload_n {k : Fin 4} {x : Int64} (X : Fx l G K cc nL own ret rm) (d : decode cc pc = .ok (.lload_n k, 1)) (h : L (k : Nat) = some (.long x)) (hq : pc + 1 = q)
    (kk : AW G K Q q (L) (.long x :: st) c) : AW G K Q pc L (st) c := by
  subst hq
  obtain ⟨p, l1, e, R, s, m, args, below, meth, cd⟩ := K
  obtain ⟨hx, hb, hml, hown, hts, hK, hinj, hr, hlocks, hR, hl1, hns⟩ := X
  intro H locs ls hP hS hl
  exact lv_lload_n hx hb d rfl (lvf_at hl h) (kk H locs ls hP hS hl)
theorem A_lload {i : Nat} {x : Int64} (X : Fx l G K cc nL own ret rm) (d : decode cc pc = .ok (.lload i, 2)) (h : L i = some (.long x)) (hq : pc + 2 = q)
    (kk : AW G K Q q (L) (.long x :: st) c) : AW G K Q pc L (st) c := by
  subst hq
  obtain ⟨p, l1, e, R, s, m, args, below, meth, cd⟩ := K
  obtain ⟨hx, hb, hml, hown, hts, hK, hinj, hr, hlocks, hR, hl1, hns⟩ := X
  intro H locs ls hP hS hl
  exact lv_lload hx hb d (lvf_at hl h) (kk H locs ls hP hS hl)
theorem A_aload_n {k : Fin 4} {x : Nat} (X : Fx l G K cc nL own ret rm) (d : decode cc pc = .ok (.aload_n k, 1)) (h : L (k : Nat) = some (.ref x)) (hq : pc + 1 = q)
    (kk : AW G K Q q (L) (.ref x :: st) c) : AW G K Q pc L (st) c := by
  subst hq
  obtain ⟨p, l1, e, R, s, m, args, below, meth, cd⟩ := K
  obtain ⟨hx, hb, hml, hown, hts, hK, hinj, hr, hlocks, hR, hl1, hns⟩ := X
  intro H locs ls hP hS hl
  exact lv_aload_n hx hb d rfl (lvf_at hl h) (kk H locs ls hP hS hl)
theorem A_aload {i : Nat} {x : Nat} (X : Fx l G K cc nL own ret rm) (d : decode cc pc = .ok (.aload i, 2)) (h : L i = some (.ref x)) (hq : pc + 2 = q)
    (kk : AW G K Q q (L) (.ref x :: st) c) : AW G K Q pc L (st) c := by
  subst hq
  obtain ⟨p, l1, e, R, s, m, args, below, meth, cd⟩ := K
  obtain ⟨hx, hb, hml, hown, hts, hK, hinj, hr, hlocks, hR, hl1, hns⟩ := X
  intro H locs ls hP hS hl
  exact lv_aload hx hb d (lvf_at hl h) (kk H locs ls hP hS hl)
theorem A_istore_n {k : Fin 4} {x : Int32} (X : Fx l G K cc nL own ret rm) (d : decode cc pc = .ok (.istore_n k, 1)) (hn : (k : Nat) < nL) (hp : okP L k) (hq : pc + 1 = q)
    (kk : AW G K Q q (stL L k (.int x)) (st) c) : AW G K Q pc L (.int x :: st) c := by
  subst hq
  obtain ⟨p, l1, e, R, s, m, args, below, meth, cd⟩ := K
  obtain ⟨hx, hb, hml, hown, hts, hK, hinj, hr, hlocks, hR, hl1, hns⟩ := X
  intro H locs ls hP hS hl
  obtain ⟨l2, h1, h2⟩ := hl
  exact lv_istore_n hx hb d rfl h1 (by rw [hml]; exact hn) rfl (fun ls' hl' => kk H locs ls' hP hS ⟨_, hl', lvf_st h2 hp⟩)
theorem A_istore {i : Nat} {x : Int32} (X : Fx l G K cc nL own ret rm) (d : decode cc pc = .ok (.istore i, 2)) (hn : i < nL) (hp : okP L i) (hq : pc + 2 = q)
    (kk : AW G K Q q (stL L i (.int x)) (st) c) : AW G K Q pc L (.int x :: st) c := by
  subst hq
  obtain ⟨p, l1, e, R, s, m, args, below, meth, cd⟩ := K
  obtain ⟨hx, hb, hml, hown, hts, hK, hinj, hr, hlocks, hR, hl1, hns⟩ := X
  intro H locs ls hP hS hl
  obtain ⟨l2, h1, h2⟩ := hl
  exact lv_istore hx hb d h1 (by rw [hml]; exact hn) rfl (fun ls' hl' => kk H locs ls' hP hS ⟨_, hl', lvf_st h2 hp⟩)
theorem A_astore_n {k : Fin 4} {x : Nat} (X : Fx l G K cc nL own ret rm) (d : decode cc pc = .ok (.astore_n k, 1)) (hn : (k : Nat) < nL) (hp : okP L k) (hq : pc + 1 = q)
    (kk : AW G K Q q (stL L k (.ref x)) (st) c) : AW G K Q pc L (.ref x :: st) c := by
  subst hq
  obtain ⟨p, l1, e, R, s, m, args, below, meth, cd⟩ := K
  obtain ⟨hx, hb, hml, hown, hts, hK, hinj, hr, hlocks, hR, hl1, hns⟩ := X
  intro H locs ls hP hS hl
  obtain ⟨l2, h1, h2⟩ := hl
  exact lv_astore_n hx hb d rfl h1 (by rw [hml]; exact hn) rfl (fun ls' hl' => kk H locs ls' hP hS ⟨_, hl', lvf_st h2 hp⟩)
theorem A_astore {i : Nat} {x : Nat} (X : Fx l G K cc nL own ret rm) (d : decode cc pc = .ok (.astore i, 2)) (hn : i < nL) (hp : okP L i) (hq : pc + 2 = q)
    (kk : AW G K Q q (stL L i (.ref x)) (st) c) : AW G K Q pc L (.ref x :: st) c := by
  subst hq
  obtain ⟨p, l1, e, R, s, m, args, below, meth, cd⟩ := K
  obtain ⟨hx, hb, hml, hown, hts, hK, hinj, hr, hlocks, hR, hl1, hns⟩ := X
  intro H locs ls hP hS hl
  obtain ⟨l2, h1, h2⟩ := hl
  exact lv_astore hx hb d h1 (by rw [hml]; exact hn) rfl (fun ls' hl' => kk H locs ls' hP hS ⟨_, hl', lvf_st h2 hp⟩)
theorem A_lstore_n {k : Fin 4} {x : Int64} (X : Fx l G K cc nL own ret rm) (d : decode cc pc = .ok (.lstore_n k, 1)) (hn : (k : Nat) + 1 < nL) (hp : okP L k) (hq : pc + 1 = q)
    (kk : AW G K Q q (stL2 L k (.long x)) (st) c) : AW G K Q pc L (.long x :: st) c := by
  subst hq
  obtain ⟨p, l1, e, R, s, m, args, below, meth, cd⟩ := K
  obtain ⟨hx, hb, hml, hown, hts, hK, hinj, hr, hlocks, hR, hl1, hns⟩ := X
  intro H locs ls hP hS hl
  obtain ⟨l2, h1, h2⟩ := hl
  exact lv_lstore_n hx hb d rfl h1 (by rw [hml]; exact hn) rfl (fun ls' hl' => kk H locs ls' hP hS ⟨_, hl', lvf_st2 h2 hp⟩)
theorem A_iinc {i : Nat} {n z : Int} (X : Fx l G K cc nL own ret rm) (d : decode cc pc = .ok (.iinc i n, 3)) (h : L i = some (.int (zI z))) (hn : i < nL) (hp : okP L i) (hq : pc + 3 = q)
    (kk : AW G K Q q (stL L i (.int (zI (z + n)))) (st) c) : AW G K Q pc L (st) c := by
  subst hq
  obtain ⟨p, l1, e, R, s, m, args, below, meth, cd⟩ := K
  obtain ⟨hx, hb, hml, hown, hts, hK, hinj, hr, hlocks, hR, hl1, hns⟩ := X
  intro H locs ls hP hS hl
  obtain ⟨l2, h1, h2⟩ := hl
  obtain ⟨k, hk⟩ := List.getElem?_of_mem (h2 i _ h)
  exact lv_iinc hx hb d h1 hk (v := zI (z + n)) (zI_add z n) (by rw [hml]; exact hn) rfl (fun ls' hl' => kk H locs ls' hP hS ⟨_, hl', lvf_st h2 hp⟩)
theorem A_iadd {x y : Int} (X : Fx l G K cc nL own ret rm) (d : decode cc pc = .ok (.iadd, 1)) (hq : pc + 1 = q)
    (kk : AW G K Q q (L) (.int (zI (x + y)) :: st) c) : AW G K Q pc L (.int (zI y) :: .int (zI x) :: st) c := by
  subst hq
  obtain ⟨p, l1, e, R, s, m, args, below, meth, cd⟩ := K
  obtain ⟨hx, hb, hml, hown, hts, hK, hinj, hr, hlocks, hR, hl1, hns⟩ := X
  intro H locs ls hP hS hl
  exact lv_iadd hx hb d (by rw [zI_add]; exact kk H locs ls hP hS hl)
theorem A_isub {x y : Int} (X : Fx l G K cc nL own ret rm) (d : decode cc pc = .ok (.isub, 1)) (hq : pc + 1 = q)
    (kk : AW G K Q q (L) (.int (zI (x - y)) :: st) c) : AW G K Q pc L (.int (zI y) :: .int (zI x) :: st) c := by
  subst hq
  obtain ⟨p, l1, e, R, s, m, args, below, meth, cd⟩ := K
  obtain ⟨hx, hb, hml, hown, hts, hK, hinj, hr, hlocks, hR, hl1, hns⟩ := X
  intro H locs ls hP hS hl
  exact lv_isub hx hb d (by rw [zI_sub]; exact kk H locs ls hP hS hl)
theorem A_imul {x y : Int} (X : Fx l G K cc nL own ret rm) (d : decode cc pc = .ok (.imul, 1)) (hq : pc + 1 = q)
    (kk : AW G K Q q (L) (.int (zI (x * y)) :: st) c) : AW G K Q pc L (.int (zI y) :: .int (zI x) :: st) c := by
  subst hq
  obtain ⟨p, l1, e, R, s, m, args, below, meth, cd⟩ := K
  obtain ⟨hx, hb, hml, hown, hts, hK, hinj, hr, hlocks, hR, hl1, hns⟩ := X
  intro H locs ls hP hS hl
  exact lv_imul hx hb d (by rw [zI_mul]; exact kk H locs ls hP hS hl)
theorem A_iand {x y : Int32} (X : Fx l G K cc nL own ret rm) (d : decode cc pc = .ok (.iand, 1)) (hq : pc + 1 = q)
    (kk : AW G K Q q (L) (.int (x &&& y) :: st) c) : AW G K Q pc L (.int y :: .int x :: st) c := by
  subst hq
  obtain ⟨p, l1, e, R, s, m, args, below, meth, cd⟩ := K
  obtain ⟨hx, hb, hml, hown, hts, hK, hinj, hr, hlocks, hR, hl1, hns⟩ := X
  intro H locs ls hP hS hl
  exact lv_iand hx hb d (kk H locs ls hP hS hl)
theorem A_ior {x y : Int32} (X : Fx l G K cc nL own ret rm) (d : decode cc pc = .ok (.ior, 1)) (hq : pc + 1 = q)
    (kk : AW G K Q q (L) (.int (x ||| y) :: st) c) : AW G K Q pc L (.int y :: .int x :: st) c := by
  subst hq
  obtain ⟨p, l1, e, R, s, m, args, below, meth, cd⟩ := K
  obtain ⟨hx, hb, hml, hown, hts, hK, hinj, hr, hlocks, hR, hl1, hns⟩ := X
  intro H locs ls hP hS hl
  exact lv_ior hx hb d (kk H locs ls hP hS hl)
theorem A_ishl {x y : Int32} (X : Fx l G K cc nL own ret rm) (d : decode cc pc = .ok (.ishl, 1)) (hq : pc + 1 = q)
    (kk : AW G K Q q (L) (.int (x <<< (y &&& 31)) :: st) c) : AW G K Q pc L (.int y :: .int x :: st) c := by
  subst hq
  obtain ⟨p, l1, e, R, s, m, args, below, meth, cd⟩ := K
  obtain ⟨hx, hb, hml, hown, hts, hK, hinj, hr, hlocks, hR, hl1, hns⟩ := X
  intro H locs ls hP hS hl
  exact lv_ishl hx hb d (kk H locs ls hP hS hl)
theorem zI_div {x y : Int} (hx : 0 ≤ x) (hx2 : rg x) (hy : 0 < y) (hy2 : rg y) : zI x / zI y = zI (x / y) := by
  obtain ⟨a, rfl⟩ := Int.eq_ofNat_of_zero_le hx
  obtain ⟨b, rfl⟩ := Int.eq_ofNat_of_zero_le (Int.le_of_lt hy)
  have h1 := hx2.2
  have h2 := hy2.2
  rw [← zI_nI, ← zI_nI, pk_div (by omega) (by omega) (by omega), zI_nI]
  rfl
theorem zI_rem {x y : Int} (hx : 0 ≤ x) (hx2 : rg x) (hy : 0 < y) (hy2 : rg y) : zI x - zI x / zI y * zI y = zI (x % y) := by
  rw [zI_div hx hx2 hy hy2, zI_mul, zI_sub]
  congr 1
  have := Int.emod_def x y
  rw [this, Int.mul_comm]
theorem A_idiv {x y : Int} (X : Fx l G K cc nL own ret rm) (d : decode cc pc = .ok (.idiv, 1)) (h1 : 0 ≤ x) (h2 : rg x) (h3 : 0 < y) (h4 : rg y) (hq : pc + 1 = q)
    (kk : AW G K Q q (L) (.int (zI (x / y)) :: st) c) : AW G K Q pc L (.int (zI y) :: .int (zI x) :: st) c := by
  subst hq
  obtain ⟨p, l1, e, R, s, m, args, below, meth, cd⟩ := K
  obtain ⟨hx, hb, hml, hown, hts, hK, hinj, hr, hlocks, hR, hl1, hns⟩ := X
  intro H locs ls hP hS hl
  exact lv_idiv hx hb d (by rw [zI_0, zI_eq h4 rg_0]; omega) (by rw [zI_div h1 h2 h3 h4]; exact kk H locs ls hP hS hl)
theorem A_irem {x y : Int} (X : Fx l G K cc nL own ret rm) (d : decode cc pc = .ok (.irem, 1)) (h1 : 0 ≤ x) (h2 : rg x) (h3 : 0 < y) (h4 : rg y) (hq : pc + 1 = q)
    (kk : AW G K Q q (L) (.int (zI (x % y)) :: st) c) : AW G K Q pc L (.int (zI y) :: .int (zI x) :: st) c := by
  subst hq
  obtain ⟨p, l1, e, R, s, m, args, below, meth, cd⟩ := K
  obtain ⟨hx, hb, hml, hown, hts, hK, hinj, hr, hlocks, hR, hl1, hns⟩ := X
  intro H locs ls hP hS hl
  exact lv_irem hx hb d (by rw [zI_0, zI_eq h4 rg_0]; omega) (by rw [zI_rem h1 h2 h3 h4]; exact kk H locs ls hP hS hl)
theorem A_ladd {x y : Int64} (X : Fx l G K cc nL own ret rm) (d : decode cc pc = .ok (.ladd, 1)) (hq : pc + 1 = q)
    (kk : AW G K Q q (L) (.long (x + y) :: st) c) : AW G K Q pc L (.long y :: .long x :: st) c := by
  subst hq
  obtain ⟨p, l1, e, R, s, m, args, below, meth, cd⟩ := K
  obtain ⟨hx, hb, hml, hown, hts, hK, hinj, hr, hlocks, hR, hl1, hns⟩ := X
  intro H locs ls hP hS hl
  exact lv_ladd hx hb d (kk H locs ls hP hS hl)
theorem A_lsub {x y : Int64} (X : Fx l G K cc nL own ret rm) (d : decode cc pc = .ok (.lsub, 1)) (hq : pc + 1 = q)
    (kk : AW G K Q q (L) (.long (x - y) :: st) c) : AW G K Q pc L (.long y :: .long x :: st) c := by
  subst hq
  obtain ⟨p, l1, e, R, s, m, args, below, meth, cd⟩ := K
  obtain ⟨hx, hb, hml, hown, hts, hK, hinj, hr, hlocks, hR, hl1, hns⟩ := X
  intro H locs ls hP hS hl
  exact lv_lsub hx hb d (kk H locs ls hP hS hl)
theorem A_lmul {x y : Int64} (X : Fx l G K cc nL own ret rm) (d : decode cc pc = .ok (.lmul, 1)) (hq : pc + 1 = q)
    (kk : AW G K Q q (L) (.long (x * y) :: st) c) : AW G K Q pc L (.long y :: .long x :: st) c := by
  subst hq
  obtain ⟨p, l1, e, R, s, m, args, below, meth, cd⟩ := K
  obtain ⟨hx, hb, hml, hown, hts, hK, hinj, hr, hlocks, hR, hl1, hns⟩ := X
  intro H locs ls hP hS hl
  exact lv_lmul hx hb d (kk H locs ls hP hS hl)
theorem A_land {x y : Int64} (X : Fx l G K cc nL own ret rm) (d : decode cc pc = .ok (.land, 1)) (hq : pc + 1 = q)
    (kk : AW G K Q q (L) (.long (x &&& y) :: st) c) : AW G K Q pc L (.long y :: .long x :: st) c := by
  subst hq
  obtain ⟨p, l1, e, R, s, m, args, below, meth, cd⟩ := K
  obtain ⟨hx, hb, hml, hown, hts, hK, hinj, hr, hlocks, hR, hl1, hns⟩ := X
  intro H locs ls hP hS hl
  exact lv_land hx hb d (kk H locs ls hP hS hl)
theorem A_lor {x y : Int64} (X : Fx l G K cc nL own ret rm) (d : decode cc pc = .ok (.lor, 1)) (hq : pc + 1 = q)
    (kk : AW G K Q q (L) (.long (x ||| y) :: st) c) : AW G K Q pc L (.long y :: .long x :: st) c := by
  subst hq
  obtain ⟨p, l1, e, R, s, m, args, below, meth, cd⟩ := K
  obtain ⟨hx, hb, hml, hown, hts, hK, hinj, hr, hlocks, hR, hl1, hns⟩ := X
  intro H locs ls hP hS hl
  exact lv_lor hx hb d (kk H locs ls hP hS hl)
theorem A_ldiv {x y : Int64} (X : Fx l G K cc nL own ret rm) (d : decode cc pc = .ok (.ldiv, 1)) (hne : ¬ y = 0) (hq : pc + 1 = q)
    (kk : AW G K Q q (L) (.long (x / y) :: st) c) : AW G K Q pc L (.long y :: .long x :: st) c := by
  subst hq
  obtain ⟨p, l1, e, R, s, m, args, below, meth, cd⟩ := K
  obtain ⟨hx, hb, hml, hown, hts, hK, hinj, hr, hlocks, hR, hl1, hns⟩ := X
  intro H locs ls hP hS hl
  exact lv_ldiv hx hb d hne (kk H locs ls hP hS hl)
theorem A_lrem {x y : Int64} (X : Fx l G K cc nL own ret rm) (d : decode cc pc = .ok (.lrem, 1)) (hne : ¬ y = 0) (hq : pc + 1 = q)
    (kk : AW G K Q q (L) (.long (x - x / y * y) :: st) c) : AW G K Q pc L (.long y :: .long x :: st) c := by
  subst hq
  obtain ⟨p, l1, e, R, s, m, args, below, meth, cd⟩ := K
  obtain ⟨hx, hb, hml, hown, hts, hK, hinj, hr, hlocks, hR, hl1, hns⟩ := X
  intro H locs ls hP hS hl
  exact lv_lrem hx hb d hne (kk H locs ls hP hS hl)
theorem A_i2l {x : Int32} (X : Fx l G K cc nL own ret rm) (d : decode cc pc = .ok (.i2l, 1)) (hq : pc + 1 = q)
    (kk : AW G K Q q (L) (.long x.toInt64 :: st) c) : AW G K Q pc L (.int x :: st) c := by
  subst hq
  obtain ⟨p, l1, e, R, s, m, args, below, meth, cd⟩ := K
  obtain ⟨hx, hb, hml, hown, hts, hK, hinj, hr, hlocks, hR, hl1, hns⟩ := X
  intro H locs ls hP hS hl
  exact lv_i2l hx hb d rfl (kk H locs ls hP hS hl)
theorem A_l2i {x : Int64} (X : Fx l G K cc nL own ret rm) (d : decode cc pc = .ok (.l2i, 1)) (hq : pc + 1 = q)
    (kk : AW G K Q q (L) (.int x.toInt32 :: st) c) : AW G K Q pc L (.long x :: st) c := by
  subst hq
  obtain ⟨p, l1, e, R, s, m, args, below, meth, cd⟩ := K
  obtain ⟨hx, hb, hml, hown, hts, hK, hinj, hr, hlocks, hR, hl1, hns⟩ := X
  intro H locs ls hP hS hl
  exact lv_l2i hx hb d rfl (kk H locs ls hP hS hl)
theorem A_lushr {x : Int64} {y : Int32} (X : Fx l G K cc nL own ret rm) (d : decode cc pc = .ok (.lushr, 1)) (hq : pc + 1 = q)
    (kk : AW G K Q q (L) (.long (x.toUInt64 >>> (y.toInt64.toUInt64 &&& Int64.toUInt64 63)).toInt64 :: st) c) : AW G K Q pc L (.int y :: .long x :: st) c := by
  subst hq
  obtain ⟨p, l1, e, R, s, m, args, below, meth, cd⟩ := K
  obtain ⟨hx, hb, hml, hown, hts, hK, hinj, hr, hlocks, hR, hl1, hns⟩ := X
  intro H locs ls hP hS hl
  exact lv_lushr hx hb d rfl (kk H locs ls hP hS hl)
theorem A_lshl {x : Int64} {y : Int32} (X : Fx l G K cc nL own ret rm) (d : decode cc pc = .ok (.lshl, 1)) (hq : pc + 1 = q)
    (kk : AW G K Q q (L) (.long (x <<< (y.toInt64 &&& 63)) :: st) c) : AW G K Q pc L (.int y :: .long x :: st) c := by
  subst hq
  obtain ⟨p, l1, e, R, s, m, args, below, meth, cd⟩ := K
  obtain ⟨hx, hb, hml, hown, hts, hK, hinj, hr, hlocks, hR, hl1, hns⟩ := X
  intro H locs ls hP hS hl
  exact lv_lshl hx hb d rfl (kk H locs ls hP hS hl)
theorem A_lcmp {x y : Int64} (X : Fx l G K cc nL own ret rm) (d : decode cc pc = .ok (.lcmp, 1)) (hq : pc + 1 = q)
    (kk : AW G K Q q (L) (.int (lg_cmp x y) :: st) c) : AW G K Q pc L (.long y :: .long x :: st) c := by
  subst hq
  obtain ⟨p, l1, e, R, s, m, args, below, meth, cd⟩ := K
  obtain ⟨hx, hb, hml, hown, hts, hK, hinj, hr, hlocks, hR, hl1, hns⟩ := X
  intro H locs ls hP hS hl
  exact W.lcmp hx hb d (kk H locs ls hP hS hl)
theorem A_dup {v : Value} (X : Fx l G K cc nL own ret rm) (d : decode cc pc = .ok (.dup, 1)) (h1 : v.category = 1) (hq : pc + 1 = q)
    (kk : AW G K Q q (L) (v :: v :: st) c) : AW G K Q pc L (v :: st) c := by
  subst hq
  obtain ⟨p, l1, e, R, s, m, args, below, meth, cd⟩ := K
  obtain ⟨hx, hb, hml, hown, hts, hK, hinj, hr, hlocks, hR, hl1, hns⟩ := X
  intro H locs ls hP hS hl
  exact lv_dup hx hb d h1 (kk H locs ls hP hS hl)
theorem A_pop {v : Value} (X : Fx l G K cc nL own ret rm) (d : decode cc pc = .ok (.pop, 1)) (h1 : v.category = 1) (hq : pc + 1 = q)
    (kk : AW G K Q q (L) (st) c) : AW G K Q pc L (v :: st) c := by
  subst hq
  obtain ⟨p, l1, e, R, s, m, args, below, meth, cd⟩ := K
  obtain ⟨hx, hb, hml, hown, hts, hK, hinj, hr, hlocks, hR, hl1, hns⟩ := X
  intro H locs ls hP hS hl
  exact lv_pop hx hb d h1 (kk H locs ls hP hS hl)
theorem A_dup2 {v u : Value} (X : Fx l G K cc nL own ret rm) (d : decode cc pc = .ok (.dup2, 1)) (h1 : v.category = 1) (h2 : u.category = 1) (hq : pc + 1 = q)
    (kk : AW G K Q q (L) (v :: u :: v :: u :: st) c) : AW G K Q pc L (v :: u :: st) c := by
  subst hq
  obtain ⟨p, l1, e, R, s, m, args, below, meth, cd⟩ := K
  obtain ⟨hx, hb, hml, hown, hts, hK, hinj, hr, hlocks, hR, hl1, hns⟩ := X
  intro H locs ls hP hS hl
  exact lv_dup2_11 hx hb d h1 h2 (kk H locs ls hP hS hl)
theorem A_goto {off : Int} (X : Fx l G K cc nL own ret rm) (d : decode cc pc = .ok (.goto off, 3)) (ht : (pc : Int) + off = (q : Int)) (kk : AW G K Q q L st c) : AW G K Q pc L st c := by
  obtain ⟨p, l1, e, R, s, m, args, below, meth, cd⟩ := K
  obtain ⟨hx, hb, hml, hown, hts, hK, hinj, hr, hlocks, hR, hl1, hns⟩ := X
  intro H locs ls hP hS hl
  exact lv_goto hx hb d ht (kk H locs ls hP hS hl)
theorem A_icmp_eq {x y : Int} {off : Int} {t : Nat} (X : Fx l G K cc nL own ret rm) (d : decode cc pc = .ok (.if_icmp .eq off, 3)) (h1 : rg x) (h2 : rg y) (ht : (pc : Int) + off = (t : Int)) (hq : pc + 3 = q)
    (kt : x = y → AW G K Q t L st c) (kf : ¬ (x = y) → AW G K Q q L st c) : AW G K Q pc L (.int (zI y) :: .int (zI x) :: st) c := by
  subst hq
  obtain ⟨p, l1, e, R, s, m, args, below, meth, cd⟩ := K
  obtain ⟨hx, hb, hml, hown, hts, hK, hinj, hr, hlocks, hR, hl1, hns⟩ := X
  intro H locs ls hP hS hl
  refine lv_icmp_eq hx hb d ht (fun hh => kt ?_ H locs ls hP hS hl) (fun hh => kf ?_ H locs ls hP hS hl)
  · rw [zI_eq h1 h2] at hh
    exact hh
  · rw [zI_eq h1 h2] at hh
    exact hh
theorem A_if_eq {x : Int} {off : Int} {t : Nat} (X : Fx l G K cc nL own ret rm) (d : decode cc pc = .ok (.ifCond .eq off, 3)) (h1 : rg x) (ht : (pc : Int) + off = (t : Int)) (hq : pc + 3 = q)
    (kt : x = 0 → AW G K Q t L st c) (kf : ¬ (x = 0) → AW G K Q q L st c) : AW G K Q pc L (.int (zI x) :: st) c := by
  subst hq
  obtain ⟨p, l1, e, R, s, m, args, below, meth, cd⟩ := K
  obtain ⟨hx, hb, hml, hown, hts, hK, hinj, hr, hlocks, hR, hl1, hns⟩ := X
  intro H locs ls hP hS hl
  refine lv_if_eq hx hb d ht (fun hh => kt ?_ H locs ls hP hS hl) (fun hh => kf ?_ H locs ls hP hS hl)
  · rw [zI_0, zI_eq h1 rg_0] at hh
    exact hh
  · rw [zI_0, zI_eq h1 rg_0] at hh
    exact hh
theorem A_icmp_ne {x y : Int} {off : Int} {t : Nat} (X : Fx l G K cc nL own ret rm) (d : decode cc pc = .ok (.if_icmp .ne off, 3)) (h1 : rg x) (h2 : rg y) (ht : (pc : Int) + off = (t : Int)) (hq : pc + 3 = q)
    (kt : x ≠ y → AW G K Q t L st c) (kf : ¬ (x ≠ y) → AW G K Q q L st c) : AW G K Q pc L (.int (zI y) :: .int (zI x) :: st) c := by
  subst hq
  obtain ⟨p, l1, e, R, s, m, args, below, meth, cd⟩ := K
  obtain ⟨hx, hb, hml, hown, hts, hK, hinj, hr, hlocks, hR, hl1, hns⟩ := X
  intro H locs ls hP hS hl
  refine lv_icmp_ne hx hb d ht (fun hh => kt ?_ H locs ls hP hS hl) (fun hh => kf ?_ H locs ls hP hS hl)
  · intro z
    exact hh (by rw [zI_eq h1 h2]; exact z)
  · intro z
    rw [zI_eq h1 h2] at hh
    exact z hh
theorem A_if_ne {x : Int} {off : Int} {t : Nat} (X : Fx l G K cc nL own ret rm) (d : decode cc pc = .ok (.ifCond .ne off, 3)) (h1 : rg x) (ht : (pc : Int) + off = (t : Int)) (hq : pc + 3 = q)
    (kt : x ≠ 0 → AW G K Q t L st c) (kf : ¬ (x ≠ 0) → AW G K Q q L st c) : AW G K Q pc L (.int (zI x) :: st) c := by
  subst hq
  obtain ⟨p, l1, e, R, s, m, args, below, meth, cd⟩ := K
  obtain ⟨hx, hb, hml, hown, hts, hK, hinj, hr, hlocks, hR, hl1, hns⟩ := X
  intro H locs ls hP hS hl
  refine lv_if_ne hx hb d ht (fun hh => kt ?_ H locs ls hP hS hl) (fun hh => kf ?_ H locs ls hP hS hl)
  · intro z
    exact hh (by rw [zI_0, zI_eq h1 rg_0]; exact z)
  · intro z
    rw [zI_0, zI_eq h1 rg_0] at hh
    exact z hh
theorem A_icmp_lt {x y : Int} {off : Int} {t : Nat} (X : Fx l G K cc nL own ret rm) (d : decode cc pc = .ok (.if_icmp .lt off, 3)) (h1 : rg x) (h2 : rg y) (ht : (pc : Int) + off = (t : Int)) (hq : pc + 3 = q)
    (kt : x < y → AW G K Q t L st c) (kf : ¬ (x < y) → AW G K Q q L st c) : AW G K Q pc L (.int (zI y) :: .int (zI x) :: st) c := by
  subst hq
  obtain ⟨p, l1, e, R, s, m, args, below, meth, cd⟩ := K
  obtain ⟨hx, hb, hml, hown, hts, hK, hinj, hr, hlocks, hR, hl1, hns⟩ := X
  intro H locs ls hP hS hl
  refine lv_icmp_lt hx hb d ht (fun hh => kt ?_ H locs ls hP hS hl) (fun hh => kf ?_ H locs ls hP hS hl)
  · rw [zI_lt h1 h2] at hh
    exact hh
  · rw [zI_lt h1 h2] at hh
    exact hh
theorem A_if_lt {x : Int} {off : Int} {t : Nat} (X : Fx l G K cc nL own ret rm) (d : decode cc pc = .ok (.ifCond .lt off, 3)) (h1 : rg x) (ht : (pc : Int) + off = (t : Int)) (hq : pc + 3 = q)
    (kt : x < 0 → AW G K Q t L st c) (kf : ¬ (x < 0) → AW G K Q q L st c) : AW G K Q pc L (.int (zI x) :: st) c := by
  subst hq
  obtain ⟨p, l1, e, R, s, m, args, below, meth, cd⟩ := K
  obtain ⟨hx, hb, hml, hown, hts, hK, hinj, hr, hlocks, hR, hl1, hns⟩ := X
  intro H locs ls hP hS hl
  refine lv_if_lt hx hb d ht (fun hh => kt ?_ H locs ls hP hS hl) (fun hh => kf ?_ H locs ls hP hS hl)
  · rw [zI_0, zI_lt h1 rg_0] at hh
    exact hh
  · rw [zI_0, zI_lt h1 rg_0] at hh
    exact hh
theorem A_icmp_ge {x y : Int} {off : Int} {t : Nat} (X : Fx l G K cc nL own ret rm) (d : decode cc pc = .ok (.if_icmp .ge off, 3)) (h1 : rg x) (h2 : rg y) (ht : (pc : Int) + off = (t : Int)) (hq : pc + 3 = q)
    (kt : y ≤ x → AW G K Q t L st c) (kf : ¬ (y ≤ x) → AW G K Q q L st c) : AW G K Q pc L (.int (zI y) :: .int (zI x) :: st) c := by
  subst hq
  obtain ⟨p, l1, e, R, s, m, args, below, meth, cd⟩ := K
  obtain ⟨hx, hb, hml, hown, hts, hK, hinj, hr, hlocks, hR, hl1, hns⟩ := X
  intro H locs ls hP hS hl
  refine lv_icmp_ge hx hb d ht (fun hh => kt ?_ H locs ls hP hS hl) (fun hh => kf ?_ H locs ls hP hS hl)
  · rw [zI_le h2 h1] at hh
    exact hh
  · rw [zI_le h2 h1] at hh
    exact hh
theorem A_if_ge {x : Int} {off : Int} {t : Nat} (X : Fx l G K cc nL own ret rm) (d : decode cc pc = .ok (.ifCond .ge off, 3)) (h1 : rg x) (ht : (pc : Int) + off = (t : Int)) (hq : pc + 3 = q)
    (kt : 0 ≤ x → AW G K Q t L st c) (kf : ¬ (0 ≤ x) → AW G K Q q L st c) : AW G K Q pc L (.int (zI x) :: st) c := by
  subst hq
  obtain ⟨p, l1, e, R, s, m, args, below, meth, cd⟩ := K
  obtain ⟨hx, hb, hml, hown, hts, hK, hinj, hr, hlocks, hR, hl1, hns⟩ := X
  intro H locs ls hP hS hl
  refine lv_if_ge hx hb d ht (fun hh => kt ?_ H locs ls hP hS hl) (fun hh => kf ?_ H locs ls hP hS hl)
  · rw [zI_0, zI_le rg_0 h1] at hh
    exact hh
  · rw [zI_0, zI_le rg_0 h1] at hh
    exact hh
theorem A_icmp_gt {x y : Int} {off : Int} {t : Nat} (X : Fx l G K cc nL own ret rm) (d : decode cc pc = .ok (.if_icmp .gt off, 3)) (h1 : rg x) (h2 : rg y) (ht : (pc : Int) + off = (t : Int)) (hq : pc + 3 = q)
    (kt : y < x → AW G K Q t L st c) (kf : ¬ (y < x) → AW G K Q q L st c) : AW G K Q pc L (.int (zI y) :: .int (zI x) :: st) c := by
  subst hq
  obtain ⟨p, l1, e, R, s, m, args, below, meth, cd⟩ := K
  obtain ⟨hx, hb, hml, hown, hts, hK, hinj, hr, hlocks, hR, hl1, hns⟩ := X
  intro H locs ls hP hS hl
  refine lv_icmp_gt hx hb d ht (fun hh => kt ?_ H locs ls hP hS hl) (fun hh => kf ?_ H locs ls hP hS hl)
  · rw [zI_lt h2 h1] at hh
    exact hh
  · rw [zI_lt h2 h1] at hh
    exact hh
theorem A_if_gt {x : Int} {off : Int} {t : Nat} (X : Fx l G K cc nL own ret rm) (d : decode cc pc = .ok (.ifCond .gt off, 3)) (h1 : rg x) (ht : (pc : Int) + off = (t : Int)) (hq : pc + 3 = q)
    (kt : 0 < x → AW G K Q t L st c) (kf : ¬ (0 < x) → AW G K Q q L st c) : AW G K Q pc L (.int (zI x) :: st) c := by
  subst hq
  obtain ⟨p, l1, e, R, s, m, args, below, meth, cd⟩ := K
  obtain ⟨hx, hb, hml, hown, hts, hK, hinj, hr, hlocks, hR, hl1, hns⟩ := X
  intro H locs ls hP hS hl
  refine lv_if_gt hx hb d ht (fun hh => kt ?_ H locs ls hP hS hl) (fun hh => kf ?_ H locs ls hP hS hl)
  · rw [zI_0, zI_lt rg_0 h1] at hh
    exact hh
  · rw [zI_0, zI_lt rg_0 h1] at hh
    exact hh
theorem A_icmp_le {x y : Int} {off : Int} {t : Nat} (X : Fx l G K cc nL own ret rm) (d : decode cc pc = .ok (.if_icmp .le off, 3)) (h1 : rg x) (h2 : rg y) (ht : (pc : Int) + off = (t : Int)) (hq : pc + 3 = q)
    (kt : x ≤ y → AW G K Q t L st c) (kf : ¬ (x ≤ y) → AW G K Q q L st c) : AW G K Q pc L (.int (zI y) :: .int (zI x) :: st) c := by
  subst hq
  obtain ⟨p, l1, e, R, s, m, args, below, meth, cd⟩ := K
  obtain ⟨hx, hb, hml, hown, hts, hK, hinj, hr, hlocks, hR, hl1, hns⟩ := X
  intro H locs ls hP hS hl
  refine lv_icmp_le hx hb d ht (fun hh => kt ?_ H locs ls hP hS hl) (fun hh => kf ?_ H locs ls hP hS hl)
  · rw [zI_le h1 h2] at hh
    exact hh
  · rw [zI_le h1 h2] at hh
    exact hh
theorem A_if_le {x : Int} {off : Int} {t : Nat} (X : Fx l G K cc nL own ret rm) (d : decode cc pc = .ok (.ifCond .le off, 3)) (h1 : rg x) (ht : (pc : Int) + off = (t : Int)) (hq : pc + 3 = q)
    (kt : x ≤ 0 → AW G K Q t L st c) (kf : ¬ (x ≤ 0) → AW G K Q q L st c) : AW G K Q pc L (.int (zI x) :: st) c := by
  subst hq
  obtain ⟨p, l1, e, R, s, m, args, below, meth, cd⟩ := K
  obtain ⟨hx, hb, hml, hown, hts, hK, hinj, hr, hlocks, hR, hl1, hns⟩ := X
  intro H locs ls hP hS hl
  refine lv_if_le hx hb d ht (fun hh => kt ?_ H locs ls hP hS hl) (fun hh => kf ?_ H locs ls hP hS hl)
  · rw [zI_0, zI_le h1 rg_0] at hh
    exact hh
  · rw [zI_0, zI_le h1 rg_0] at hh
    exact hh
theorem A_tableIn {dflt lo hi : Int} {offs : Array Int} {len : Nat} {x : Int} {off : Int} (X : Fx l G K cc nL own ret rm) (d : decode cc pc = .ok (.tableswitch dflt lo hi offs, len)) (h0 : rg x) (h1 : lo ≤ x) (h2 : x ≤ hi) (ho : offs[(x - lo).toNat]? = some off) (ht : (pc : Int) + off = (q : Int)) (kk : AW G K Q q L st c) : AW G K Q pc L (.int (zI x) :: st) c := by
  obtain ⟨p, l1, e, R, s, m, args, below, meth, cd⟩ := K
  obtain ⟨hx, hb, hml, hown, hts, hK, hinj, hr, hlocks, hR, hl1, hns⟩ := X
  intro H locs ls hP hS hl
  exact lv_tableIn hx hb d (by rw [zI_toInt h0]; omega) (by rw [zI_toInt h0]; omega) (by rw [zI_toInt h0]; exact ho) ht (kk H locs ls hP hS hl)
theorem A_tableOut {dflt lo hi : Int} {offs : Array Int} {len : Nat} {x : Int} (X : Fx l G K cc nL own ret rm) (d : decode cc pc = .ok (.tableswitch dflt lo hi offs, len)) (h0 : rg x) (h1 : x < lo ∨ hi < x) (ht : (pc : Int) + dflt = (q : Int)) (kk : AW G K Q q L st c) : AW G K Q pc L (.int (zI x) :: st) c := by
  obtain ⟨p, l1, e, R, s, m, args, below, meth, cd⟩ := K
  obtain ⟨hx, hb, hml, hown, hts, hK, hinj, hr, hlocks, hR, hl1, hns⟩ := X
  intro H locs ls hP hS hl
  exact lv_tableOut hx hb d (by rw [zI_toInt h0]; omega) ht (kk H locs ls hP hS hl)
/-- a field's link out of a class's pool: class ci, slot k -/
def FL (own : String) (idx ci k : Nat) : Prop := ∃ (C : String) (T : u_T) (N : Nat) (ty0 : Nat → FieldType), vwCl[ci]? = some (C, T, N) ∧ k < N ∧ (∀ w ∈ u_ws C T N, w ∈ wsL_law) ∧ Cond.fieldLink own idx (T k).1 (T k).2.1 (T k).2.2.1 ∈ wsL_law ∧ (∀ k, k < N → parseFieldDescriptor (T k).2.2.1 = some (ty0 k)) ∧ (∀ a, a < N → ∀ b, b < N → a ≠ b → (T a).2.1 ≠ (T b).2.1)
/-- the same of a field that may be put, with its type -/
def FP (own : String) (idx ci k : Nat) (ty : FieldType) : Prop := ∃ (C : String) (T : u_T) (N : Nat) (ty0 : Nat → FieldType), vwCl[ci]? = some (C, T, N) ∧ k < N ∧ (∀ w ∈ u_ws C T N, w ∈ wsL_law) ∧ Cond.fieldLink own idx (T k).1 (T k).2.1 (T k).2.2.1 ∈ wsL_law ∧ (∀ k, k < N → parseFieldDescriptor (T k).2.2.1 = some (ty0 k)) ∧ (∀ a, a < N → ∀ b, b < N → a ≠ b → (T a).2.1 ≠ (T b).2.1) ∧ (T k).2.2.2 = false ∧ ty0 k = ty
theorem A_getf {idx ci k h : Nat} {fs : List Value} {v : Value} (X : Fx l G K cc nL own ret rm) (f : FL own idx ci k) (d : decode cc pc = .ok (.getfield idx, 3)) (hN : h < G.2.1) (hc : c h = .inr (ci, fs)) (hv : fs[k]? = some v) (hq : pc + 3 = q)
    (kk : AW G K Q q L (v :: st) c) : AW G K Q pc L (.ref (G.1 h) :: st) c := by
  subst hq
  obtain ⟨p, l1, e, R, s, m, args, below, meth, cd⟩ := K
  obtain ⟨hx, hb, hml, hown, hts, hK, hinj, hr, hlocks, hR, hl1, hns⟩ := X
  intro H locs ls hP hS hl
  obtain ⟨C, T, N, ty0, f1, f2, f3, f4, f5, f6⟩ := f
  exact va_get (q0 := h) hx hb hts f3 hown hK hP (by rw [layG_get hN, hc]) f1 k f2 (hts _ f4) (fun _ h9 => h9) hv d (kk H locs ls hP hS hl)
theorem A_putf {idx ci k h : Nat} {fs : List Value} {v : Value} {ty : FieldType} (X : Fx l G K cc nL own ret rm) (f : FP own idx ci k ty) (d : decode cc pc = .ok (.putfield idx, 3)) (hN : h < G.2.1) (hc : c h = .inr (ci, fs)) (hl0 : k < fs.length) (hn : narrow ty v = v) (hf : fits ty v = true) (hq : pc + 3 = q)
    (kk : AW G K Q q L st (va_up c h (.inr (ci, fs.set k v)))) : AW G K Q pc L (v :: .ref (G.1 h) :: st) c := by
  subst hq
  obtain ⟨p, l1, e, R, s, m, args, below, meth, cd⟩ := K
  obtain ⟨hx, hb, hml, hown, hts, hK, hinj, hr, hlocks, hR, hl1, hns⟩ := X
  intro H locs ls hP hS hl
  obtain ⟨C, T, N, ty0, f1, f2, f3, f4, f5, f6, f7, f8⟩ := f
  refine va_put (q0 := h) (ty := ty) hx hb hts f3 ty0 f5 f6 hown hK hP (layG_D hinj c) hS (by rw [layG_get hN, hc]) f1 k f2 (hts _ f4) (fun _ h9 => h9) f7 (by rw [← f8]; exact f5 k f2) hn hf hl0 d (fun H1 locs1 hP1 _ hS1 => ?_)
  rw [layG_set hN] at hP1
  exact kk H1 locs1 ls hP1 hS1 hl
theorem bz_ok {z : Int} (h : z = 0 ∨ z = 1) : narrow .boolean (.int (zI z)) = .int (zI z) ∧ fits .boolean (.int (zI z)) = true := by
  rcases h with rfl | rfl <;> exact ⟨by decide, by decide⟩
theorem A_iald {h n : Nat} {F : Nat → Int} {i : Int} (k : Nat) (X : Fx l G K cc nL own ret rm) (d : decode cc pc = .ok (.iaload, 1)) (hN : h < G.2.1) (hc : c h = aI G n F) (hi : i = (k : Int)) (hk : k < n) (hn : n < 2147483648) (hq : pc + 1 = q)
    (kk : AW G K Q q L (.int (zI (F k)) :: st) c) : AW G K Q pc L (.int (zI i) :: .ref (G.1 h) :: st) c := by
  subst hq
  obtain ⟨p, l1, e, R, s, m, args, below, meth, cd⟩ := K
  obtain ⟨hx, hb, hml, hown, hts, hK, hinj, hr, hlocks, hR, hl1, hns⟩ := X
  intro H locs ls hP hS hl
  refine va_iald (q0 := h) (t0 := 0) hx hb hK hP (by rw [layG_get hN, hc]) rfl (zI_in hi hk hn) d ?_
  have e1 : (zI i).toNatClampNeg = k := by rw [hi]; exact zI_cl (by omega)
  rw [e1]
  exact kk H locs ls hP hS hl
theorem A_zald {h n : Nat} {F : Nat → Int} {i : Int} (k : Nat) (X : Fx l G K cc nL own ret rm) (d : decode cc pc = .ok (.baload, 1)) (hN : h < G.2.1) (hc : c h = aZ G n F) (hi : i = (k : Int)) (hk : k < n) (hn : n < 2147483648) (hq : pc + 1 = q)
    (kk : AW G K Q q L (.int (zI (F k)) :: st) c) : AW G K Q pc L (.int (zI i) :: .ref (G.1 h) :: st) c := by
  subst hq
  obtain ⟨p, l1, e, R, s, m, args, below, meth, cd⟩ := K
  obtain ⟨hx, hb, hml, hown, hts, hK, hinj, hr, hlocks, hR, hl1, hns⟩ := X
  intro H locs ls hP hS hl
  refine va_zald (q0 := h) (t0 := 1) hx hb hK hP (by rw [layG_get hN, hc]) rfl (zI_in hi hk hn) d ?_
  have e1 : (zI i).toNatClampNeg = k := by rw [hi]; exact zI_cl (by omega)
  rw [e1]
  exact kk H locs ls hP hS hl
theorem A_iast {h n : Nat} {F : Nat → Int} {i v : Int} (k : Nat) (X : Fx l G K cc nL own ret rm) (d : decode cc pc = .ok (.iastore, 1)) (hN : h < G.2.1) (hc : c h = aI G n F) (hi : i = (k : Int)) (hk : k < n) (hn : n < 2147483648) (hq : pc + 1 = q)
    (kk : AW G K Q q L st (va_up c h (aI G n (va_up F k v)))) : AW G K Q pc L (.int (zI v) :: .int (zI i) :: .ref (G.1 h) :: st) c := by
  subst hq
  obtain ⟨p, l1, e, R, s, m, args, below, meth, cd⟩ := K
  obtain ⟨hx, hb, hml, hown, hts, hK, hinj, hr, hlocks, hR, hl1, hns⟩ := X
  intro H locs ls hP hS hl
  refine va_iast (q0 := h) (t0 := 0) hx hb hK hP (layG_D hinj c) hS (by rw [layG_get hN, hc]) rfl (zI_in hi hk hn) d (fun H1 locs1 hP1 _ hS1 => ?_)
  have e1 : (zI i).toNatClampNeg = k := by rw [hi]; exact zI_cl (by omega)
  rw [layG_set hN, e1, upd_zI] at hP1
  exact kk H1 locs1 ls hP1 hS1 hl
theorem A_zast {h n : Nat} {F : Nat → Int} {i v : Int} (k : Nat) (X : Fx l G K cc nL own ret rm) (d : decode cc pc = .ok (.bastore, 1)) (hN : h < G.2.1) (hc : c h = aZ G n F) (hi : i = (k : Int)) (hk : k < n) (hn : n < 2147483648) (hv : v = 0 ∨ v = 1) (hq : pc + 1 = q)
    (kk : AW G K Q q L st (va_up c h (aZ G n (va_up F k v)))) : AW G K Q pc L (.int (zI v) :: .int (zI i) :: .ref (G.1 h) :: st) c := by
  subst hq
  obtain ⟨p, l1, e, R, s, m, args, below, meth, cd⟩ := K
  obtain ⟨hx, hb, hml, hown, hts, hK, hinj, hr, hlocks, hR, hl1, hns⟩ := X
  intro H locs ls hP hS hl
  refine va_zast (q0 := h) (t0 := 1) hx hb hK hP (layG_D hinj c) hS (by rw [layG_get hN, hc]) rfl (zI_in hi hk hn) d (fun H1 locs1 hP1 _ hS1 => ?_)
  have e1 : (zI i).toNatClampNeg = k := by rw [hi]; exact zI_cl (by omega)
  have e2 : vp_nar .boolean (zI v) = zI v := by rcases hv with rfl | rfl <;> decide
  rw [layG_set hN, e1, e2, upd_zI] at hP1
  exact kk H1 locs1 ls hP1 hS1 hl
theorem A_aald {h n : Nat} {f : Nat → Nat} {i : Int} (k : Nat) (X : Fx l G K cc nL own ret rm) (d : decode cc pc = .ok (.aaload, 1)) (hN : h < G.2.1) (hc : c h = aQ G n f) (hi : i = (k : Int)) (hk : k < n) (hn : n < 2147483648) (hq : pc + 1 = q)
    (kk : AW G K Q q L (.ref (G.1 (f k)) :: st) c) : AW G K Q pc L (.int (zI i) :: .ref (G.1 h) :: st) c := by
  subst hq
  obtain ⟨p, l1, e, R, s, m, args, below, meth, cd⟩ := K
  obtain ⟨hx, hb, hml, hown, hts, hK, hinj, hr, hlocks, hR, hl1, hns⟩ := X
  intro H locs ls hP hS hl
  have hin := zI_in hi hk hn
  have e1 : (zI i).toNatClampNeg = k := by rw [hi]; exact zI_cl (by omega)
  have ha : (layG G c)[h]? = some (G.1 h, aQ G n f) := by rw [layG_get hN, hc]
  have hlt : (zI i).toNatClampNeg < n := by rw [e1]; exact hk
  refine W.aald (v := va_rf (some (G.1 (f (zI i).toNatClampNeg)))) (ty := .array .int) hx hb (hP h _ ha) ((hK.2 2 _ rfl).1 n (fun j => va_rf (some (G.1 (f j))))) rfl (fun q => by cases q) (by show ¬ (zI i < 0 ∨ (arrV _ _ _).slots.size ≤ _); rw [arrV_size]; exact hin) (by show (arrV _ _ _).slots[_]? = _; rw [arrV_read _ _ hlt]) rfl rfl d ?_
  rw [e1]
  exact kk H locs ls hP hS hl
theorem A_ireturn {Qm : Int32 → HP → Prop} {v : Int32} (X : Fx l G K cc nL own (some .int) rm) (d : decode cc pc = .ok (.ireturn, 1)) (hq : Qm v c) : AW G K (Qi Qm) pc L [.int v] c := by
  obtain ⟨p, l1, e, R, s, m, args, below, meth, cd⟩ := K
  obtain ⟨hx, hb, hml, hown, hts, hK, hinj, hr, hlocks, hR, hl1, hns⟩ := X
  intro H locs ls hP hS hl
  exact W.iret hx hb hr (fun t ht hW => ⟨_, c, rfl, ⟨v, rfl, hq⟩, by rw [ht]; exact hP, hS.F ht⟩) hS.2.2 d hlocks
theorem A_zreturn {Qm : Int32 → HP → Prop} {z : Int} (X : Fx l G K cc nL own (some .boolean) rm) (d : decode cc pc = .ok (.ireturn, 1)) (hz : z = 0 ∨ z = 1) (hq : Qm (zI z) c) : AW G K (Qi Qm) pc L [.int (zI z)] c := by
  obtain ⟨p, l1, e, R, s, m, args, below, meth, cd⟩ := K
  obtain ⟨hx, hb, hml, hown, hts, hK, hinj, hr, hlocks, hR, hl1, hns⟩ := X
  intro H locs ls hP hS hl
  exact W.zret hx hb hr (bz_ok hz).1 (fun t ht hW => ⟨_, c, rfl, ⟨zI z, rfl, hq⟩, by rw [ht]; exact hP, hS.F ht⟩) hS.2.2 d hlocks
theorem A_lreturn {Qm : Int64 → HP → Prop} {v : Int64} (X : Fx l G K cc nL own (some .long) rm) (d : decode cc pc = .ok (.lreturn, 1)) (hq : Qm v c) : AW G K (Ql Qm) pc L [.long v] c := by
  obtain ⟨p, l1, e, R, s, m, args, below, meth, cd⟩ := K
  obtain ⟨hx, hb, hml, hown, hts, hK, hinj, hr, hlocks, hR, hl1, hns⟩ := X
  intro H locs ls hP hS hl
  exact W.lret hx hb hr (fun t ht hW => ⟨_, c, rfl, ⟨v, rfl, hq⟩, by rw [ht]; exact hP, hS.F ht⟩) hS.2.2 d hlocks
theorem A_return {Qm : HP → Prop} (X : Fx l G K cc nL own none rm) (d : decode cc pc = .ok (.return_, 1)) (hq : Qm c) : AW G K (Qv Qm) pc L [] c := by
  obtain ⟨p, l1, e, R, s, m, args, below, meth, cd⟩ := K
  obtain ⟨hx, hb, hml, hown, hts, hK, hinj, hr, hlocks, hR, hl1, hns⟩ := X
  intro H locs ls hP hS hl
  exact W.vret hx hb hr (fun t ht hW => ⟨_, c, rfl, ⟨rfl, hq⟩, by rw [ht]; exact hP, hS.F ht⟩) hS.2.2 d hlocks
theorem A_areturn {Qm : Nat → HP → Prop} {k : Nat} {n : String} (X : Fx l G K cc nL own (some (.object n)) rm) (d : decode cc pc = .ok (.areturn, 1)) (hq : Qm k c) : AW G K (Qr G Qm) pc L [.ref (G.1 k)] c := by
  obtain ⟨p, l1, e, R, s, m, args, below, meth, cd⟩ := K
  obtain ⟨hx, hb, hml, hown, hts, hK, hinj, hr, hlocks, hR, hl1, hns⟩ := X
  intro H locs ls hP hS hl
  exact W.aret hx hb hr (Or.inl ⟨n, rfl⟩) (Or.inr ⟨_, rfl⟩) (fun t ht hW => ⟨_, c, rfl, ⟨k, rfl, hq⟩, by rw [ht]; exact hP, hS.F ht⟩) hS.2.2 d hlocks
theorem zI_max {x y : Int} (h1 : rg x) (h2 : rg y) : (if zI x < zI y then zI y else zI x : Int32) = zI (max x y) := by
  by_cases h : x < y
  · rw [if_pos ((zI_lt h1 h2).mpr h)]
    congr 1
    omega
  · rw [if_neg (fun z => h ((zI_lt h1 h2).mp z))]
    congr 1
    omega
theorem A_mmax {idx : Nat} {x y : Int} (X : Fx l G K cc nL own ret rm) (d : decode cc pc = .ok (.invokestatic idx, 3)) (hk1 : Cond.methodLink own idx Lib.Math.max.name ∈ wsL_law) (hk2 : Cond.static Lib.Math.max.name ∈ wsL_law) (hk3 : Cond.initialized "java/lang/Math" ∈ wsL_law) (hk4 : Cond.code Lib.Math.max.name Lib.Math.max.code 2 (some .int) ∈ wsL_law) (h1 : rg x) (h2 : rg y) (hr1 : 1 ≤ rm.frames) (hr2 : (st.map fun v => v.category).sum + 13 ≤ rm.locals) (hq : pc + 3 = q)
    (kk : AW G K Q q L (.int (zI (max x y)) :: st) c) : AW G K Q pc L (.int (zI y) :: .int (zI x) :: st) c := by
  subst hq
  obtain ⟨p, l1, e, R, s, m, args, below, meth, cd⟩ := K
  obtain ⟨hx, hb, hml, hown, hts, hK, hinj, hr, hlocks, hR, hl1, hns⟩ := X
  intro H locs ls hP hS hl
  subst hR
  have hsz : cd.maxLocals = ls.size := by obtain ⟨l2, g1, -⟩ := hl; exact g1.1.symm
  refine va_mmax hx hb hsz hown (hts _ hk1) (hts _ hk2) (hts _ hk3) (hts _ hk4) hr1 hr2 (Nat.zero_le _) (Nat.zero_le _) d ?_
  rw [zI_max h1 h2]
  exact kk H locs ls hP hS hl
theorem zI_min {x y : Int} (h1 : rg x) (h2 : rg y) : (if zI y < zI x then zI y else zI x : Int32) = zI (min x y) := by
  by_cases h : y < x
  · rw [if_pos ((zI_lt h2 h1).mpr h)]
    congr 1
    omega
  · rw [if_neg (fun z => h ((zI_lt h2 h1).mp z))]
    congr 1
    omega
theorem A_mmin {idx : Nat} {x y : Int} (X : Fx l G K cc nL own ret rm) (d : decode cc pc = .ok (.invokestatic idx, 3)) (hk1 : Cond.methodLink own idx Lib.Math.min.name ∈ wsL_law) (hk2 : Cond.static Lib.Math.min.name ∈ wsL_law) (hk3 : Cond.initialized "java/lang/Math" ∈ wsL_law) (hk4 : Cond.code Lib.Math.min.name Lib.Math.min.code 2 (some .int) ∈ wsL_law) (h1 : rg x) (h2 : rg y) (hr1 : 1 ≤ rm.frames) (hr2 : (st.map fun v => v.category).sum + 13 ≤ rm.locals) (hq : pc + 3 = q)
    (kk : AW G K Q q L (.int (zI (min x y)) :: st) c) : AW G K Q pc L (.int (zI y) :: .int (zI x) :: st) c := by
  subst hq
  obtain ⟨p, l1, e, R, s, m, args, below, meth, cd⟩ := K
  obtain ⟨hx, hb, hml, hown, hts, hK, hinj, hr, hlocks, hR, hl1, hns⟩ := X
  intro H locs ls hP hS hl
  subst hR
  have hsz : cd.maxLocals = ls.size := by obtain ⟨l2, g1, -⟩ := hl; exact g1.1.symm
  refine va_mmin hx hb hsz hown (hts _ hk1) (hts _ hk2) (hts _ hk3) (hts _ hk4) hr1 hr2 (Nat.zero_le _) (Nat.zero_le _) d ?_
  rw [zI_min h1 h2]
  exact kk H locs ls hP hS hl
theorem cpy_zI (F E : Nat → Int) (sp dp n : Nat) : va_cpy (fun k => zI (F k)) (fun k => zI (E k)) sp dp n = fun k => zI (va_cpy F E sp dp n k) := by
  funext k
  unfold va_cpy
  split <;> rfl
theorem A_copy {idx h0 h1 n0 n1 : Nat} {F E : Nat → Int} {i j len : Int} (sp dp n : Nat) (X : Fx l G K cc nL own ret rm) (d : decode cc pc = .ok (.invokestatic idx, 3)) (hk1 : Cond.methodLink own idx arraycopyName ∈ wsL_law) (hk2 : Cond.native arraycopyName ∈ wsL_law) (hk3 : Cond.static arraycopyName ∈ wsL_law) (hk4 : Cond.initialized "java/lang/System" ∈ wsL_law)
    (hN0 : h0 < G.2.1) (hN1 : h1 < G.2.1) (hc0 : c h0 = aI G n0 F) (hc1 : c h1 = aI G n1 E) (hi : i = (sp : Int)) (hj : j = (dp : Int)) (hn : len = (n : Int)) (hs0 : sp + n ≤ n0) (hs1 : dp + n ≤ n1) (hn0 : n0 < 2147483648) (hn1 : n1 < 2147483648) (hr1 : 1 ≤ rm.frames) (hr2 : (st.map fun v => v.category).sum + (nativeFrameWords "java/lang/System" "arraycopy" 5 + 11) ≤ rm.locals) (hq : pc + 3 = q)
    (kk : AW G K Q q L st (va_up c h1 (aI G n1 (va_cpy F E sp dp n)))) : AW G K Q pc L (.int (zI len) :: .int (zI j) :: .ref (G.1 h1) :: .int (zI i) :: .ref (G.1 h0) :: st) c := by
  subst hq
  subst hi
  subst hj
  subst hn
  obtain ⟨p, l1, e, R, s, m, args, below, meth, cd⟩ := K
  obtain ⟨hx, hb, hml, hown, hts, hK, hinj, hr, hlocks, hR, hl1, hns⟩ := X
  intro H locs ls hP hS hl
  subst hR
  have hsz : cd.maxLocals = ls.size := by obtain ⟨l2, g1, -⟩ := hl; exact g1.1.symm
  have e1 : (zI sp).toNatClampNeg = sp := zI_cl (by omega)
  have e2 : (zI dp).toNatClampNeg = dp := zI_cl (by omega)
  have e3 : (zI n).toNatClampNeg = n := zI_cl (by omega)
  have e4 : ∀ u : Nat, u < 2147483648 → ¬ zI u < 0 := fun u hu => by rw [zI_0, zI_lt ⟨by omega, by omega⟩ rg_0]; omega
  refine va_copyi (q0 := h0) (q1 := h1) (t0 := 0) (t1 := 0) (ty := .int) hx hb hsz hown (hts _ hk1) (hts _ hk2) (hts _ hk3) (hts _ hk4) hK hP (layG_D hinj c) hS (by rw [layG_get hN0, hc0]) (by rw [layG_get hN1, hc1]) rfl rfl rfl (e4 sp (by omega)) (e4 dp (by omega)) (e4 n (by omega)) (by rw [e1, e3]; exact hs0) (by rw [e2, e3]; exact hs1) (fun _ _ => rfl) hr1 hr2 d (fun H1 locs1 hP1 _ hS1 => ?_)
  rw [layG_set hN1, e1, e2, e3, cpy_zI] at hP1
  exact kk H1 locs1 ls hP1 hS1 hl
end AL
