/-! ===== BEGIN words of one list among another's, by their places ===== -/
theorem goodIn_r {big : List Cond} (ws : List Cond) (ps : List Nat) (hp : ws = ps.filterMap (fun i => big[i]?)) (h : ws.all goodWord = true) : GoodIn big ws := by
  intro w hw
  have h1 := List.all_eq_true.mp h w hw
  rw [hp] at hw
  obtain ⟨i, -, hi⟩ := List.mem_filterMap.mp hw
  have hm : w ∈ big := by first | exact List.mem_of_getElem? hi | exact List.getElem?_mem hi
  exact ⟨hm, good_of_word h1⟩
theorem goodIn_app {big a b : List Cond} (ha : GoodIn big a) (hb : GoodIn big b) : GoodIn big (a ++ b) := fun w h => (List.mem_append.mp h).elim (ha w) (hb w)
theorem goodIn_ca {big a b : List Cond} {c : Cond} (ha : GoodIn big (c :: a)) (hb : GoodIn big b) : GoodIn big (c :: (a ++ b)) := fun w h => (List.mem_cons.mp h).elim (fun e => ha w (List.mem_cons.mpr (Or.inl e))) (fun h => (List.mem_append.mp h).elim (fun h => ha w (List.mem_cons.mpr (Or.inr h))) (hb w))
theorem goodIn_sub {big ws : List Cond} (hm : ∀ w ∈ ws, w ∈ big) (h : ws.all goodWord = true) : GoodIn big ws := fun w hw => ⟨hm w hw, good_of_word (List.all_eq_true.mp h w hw)⟩
/-! ===== END ===== -/

/-! ===== BEGIN new T[n][m]: the outer array a place, the inner ones among the pooled ===== -/
/-- f, but v at every address of l -/
def vr_up {α : Type} (f : Nat → α) (l : List Nat) (v : α) : Nat → α := fun a => if a ∈ l then v else f a
theorem vr_up_in {α : Type} {f : Nat → α} {l : List Nat} {v : α} {a : Nat} (h : a ∈ l) : vr_up f l v a = v := if_pos h
theorem vr_up_ne {α : Type} {f : Nat → α} {l : List Nat} {v : α} {a : Nat} (h : a ∉ l) : vr_up f l v a = f a := if_neg h
theorem vr_rows {L l : List Nat} {f : Nat → va_E} {e : va_E} (h : ∀ a, a ∈ l → a ∉ L) : va_pl L f ++ l.map (fun a => (a, e)) = va_pl (L ++ l) (vr_up f l e) := by
  unfold va_pl
  rw [List.map_append]
  congr 1
  · apply List.map_congr_left
    intro a ha
    rw [vr_up_ne (fun q => h a q ha)]
  · apply List.map_congr_left
    intro a ha
    rw [vr_up_in ha]
theorem vr_lay {X rows : va_W} {x : Nat × va_E} {pl : va_W} {D : va_G} {cl : List vw_C} {H : Heap} (hP : va_P D cl (((X ++ pl) ++ [x]) ++ rows) H) : va_P D cl ((X ++ [x]) ++ (pl ++ rows)) H := by
  rw [List.append_assoc (X ++ pl)] at hP
  have h := va_P.swap hP
  rw [← List.append_assoc X] at h
  have h2 := va_P.swap h
  rw [List.append_assoc (X ++ [x])] at h2
  exact h2
theorem vr_layD {X rows : va_W} {x : Nat × va_E} {pl : va_W} {A : Nat → Prop} (hD : va_D A (((X ++ pl) ++ [x]) ++ rows)) : va_D A ((X ++ [x]) ++ (pl ++ rows)) := by
  rw [List.append_assoc (X ++ pl)] at hD
  have h := va_D.swap hD
  rw [← List.append_assoc X] at h
  have h2 := va_D.swap h
  rw [List.append_assoc (X ++ [x])] at h2
  exact h2
theorem vr_outer (c : ClassId) (N h0 : Nat) : ∀ i : Nat, Jvm.Free.Multi.outerC c N h0 i = arrV c N (fun j => va_rf (if j < i then some (h0 + 1 + j) else none))
  | 0 => by
    show ({ cls := c, slots := Array.replicate N .null, vm := .none } : Cell) = _
    rw [arrV_new]
    refine congrArg (arrV c N) (funext fun j => ?_)
    simp [va_rf]
  | i + 1 => by
    show (Jvm.Free.Multi.outerC c N h0 i).setSlot i (.ref (h0 + 1 + i)) = _
    rw [vr_outer c N h0 i, arrV_store]
    refine congrArg (arrV c N) (funext fun j => ?_)
    by_cases e : j = i
    · subst e
      simp [updV, va_rf]
    · by_cases h : j < i
      · simp [updV, e, h, Nat.lt_succ_of_lt h]
      · simp [updV, e, h, show ¬ j < i + 1 by omega]
def va_AOA (ty : FieldType) (U : State) : Prop := (Cond.arrayOver (.array ty)).before #[] U = true
theorem va_AOA.use {ty : FieldType} {A : Array Value} {U : State} (h : va_AOA ty U) : (Cond.arrayOver (.array ty)).before A U = true := h
section VGM
variable {p : Program} {l : Launch} {e : Env} {R : Room} {s : State} {m : MethodId} {args : Array Value} {below : List Frame} {meth : Method} {c : Code} {H : Heap} {locs : List Loc} {cells slots : Nat} {Q : State → Prop}
variable {cc : ByteArray} {pc : Nat} {ls : Array Slot} {rest : List Value} {D : va_G} {cl : List vw_C} {A : Nat → Prop} {a : Nat} {tys : List (ClassId × FieldType)} {ws : va_W} {H0 : Heap}
theorem va_mna {X : va_W} {L : List Nat} {f : Nat → va_E} {cc : ByteArray} (hexec : p.tables.exec = Jvm.exec) (hb : c.code = cc) {own : String} {index : Nat} {ty : FieldType} {cy : ClassId} (hown : s.vm.findClass own = some m.cls) (hclink : (Cond.classLink own index ("[" ++ (FieldType.array ty).toString)).before args s = true) (hover : va_AOA ty s) (harr : (Cond.arrayClass ty).before args s = true) (hcy : s.vm.findClass (FieldType.array ty).toString = some cy)
    (hK : va_K D cl tys s) (hP : va_P D cl (X ++ va_pl L f) H) (hD : va_D A (X ++ va_pl L f)) (hS : va_S A H0 H locs) (hA : ∀ q, H0.size ≤ q → A q) {n k : Int32} {N' K' : Nat} {z : vp_A} (hn : ¬ n < 0) (hk : ¬ k < 0) (hN : n.toNatClampNeg = N') (hM : k.toNatClampNeg = K')
    (hb1 : N' * 4 ≤ 536870912) (hb2 : K' * componentBytes ty ≤ 536870912) (hb3 : K' ≤ 536870912) (hdf : fits ty (defaultValue ty) = true) (hdd : (defaultValue ty).isDefault = true) (hcells : cells + (1 + N') ≤ R.cells) (hslots : slots + (N' + N' * K') ≤ R.slots) (hz : ∀ c : ClassId, Jvm.Free.Multi.innerC c K' (defaultValue ty) = vp_cell c z) (hdg : decode cc pc = .ok (.multianewarray index 2, 4))
    (kk : ∀ (q : Nat) (r : Nat → Nat) (cA : ClassId) (H1 : Heap), (∀ i j : Nat, i < N' → j < N' → r i = r j → i = j) → (∀ i : Nat, i < N' → r i ∉ L) → va_K D cl (tys ++ [(cA, .array ty)]) s →
      va_P D cl ((X ++ [(q, .inl (cA, N', .inr (.inr (.inr (.inr (fun i => if i < N' then some (r i) else none))))))]) ++ va_pl (L ++ (List.range N').map r) (vr_up f ((List.range N').map r) (.inl (cy, z)))) H1 → va_D A ((X ++ [(q, .inl (cA, N', .inr (.inr (.inr (.inr (fun i => if i < N' then some (r i) else none))))))]) ++ va_pl (L ++ (List.range N').map r) (vr_up f ((List.range N').map r) (.inl (cy, z)))) → va_S A H0 H1 locs →
      W p l e R s m args below meth c H1 locs (cells + 1 + N') (slots + N' + N' * K') Q (F0 m (pc + 4) ls (.ref q :: rest))) : W p l e R s m args below meth c H locs cells slots Q (F0 m pc ls (.int k :: .int n :: rest)) := by
  subst hN
  subst hM
  intro T hT Xs
  obtain ⟨vm₁, cA, comp, -, fA, fC, hO, -, X', step⟩ := Xs.multianewarray2F hexec hown hclink (va_AOA.use hover) harr (g := F0 m pc ls (.int k :: .int n :: rest)) rfl (by rw [hb]; exact hdg) rfl hn hk hb1 hb2 hb3 hdf hdd hcells hslots
  have ec : some cy = some comp := hcy.symm.trans fC
  cases ec
  generalize hF : Jvm.Free.Multi.fill (T.setVm vm₁) cA cy n.toNatClampNeg k.toNatClampNeg (defaultValue ty) n.toNatClampNeg = F at X' step
  have hTh : (T.setVm vm₁).heap = H := hT
  obtain ⟨f1, f2, -, -⟩ := Jvm.Free.Multi.fill_facts (T.setVm vm₁) cA cy n.toNatClampNeg k.toNatClampNeg (defaultValue ty) n.toNatClampNeg
  rw [hF, hTh] at f1 f2
  have hold : ∀ x : Nat, x < H.size → F.heap[x]? = H[x]? := fun x hx => by
    have := Jvm.Free.Multi.fill_old (T.setVm vm₁) cA cy n.toNatClampNeg k.toNatClampNeg (defaultValue ty) (a := x) (by rw [hTh]; exact hx) n.toNatClampNeg
    rw [hF, hTh] at this
    exact this
  have hrow : ∀ j : Nat, j < n.toNatClampNeg → F.heap[H.size + 1 + j]? = some (vp_cell cy z) := fun j hj => by
    have := Jvm.Free.Multi.fill_inner (T.setVm vm₁) cA cy n.toNatClampNeg k.toNatClampNeg (defaultValue ty) n.toNatClampNeg j hj
    rw [hF, hTh, hz] at this
    exact this
  have hout : Jvm.Free.Multi.outerC cA n.toNatClampNeg H.size n.toNatClampNeg = vp_cell cA (n.toNatClampNeg, .inr (.inr (.inr (.inr (fun i => if i < n.toNatClampNeg then some (H.size + 1 + i) else none))))) := by
    rw [vp_cell_q]
    exact vr_outer cA n.toNatClampNeg H.size n.toNatClampNeg
  rw [hout] at f2
  have hlt : ∀ a, a ∈ L → a < H.size := fun a ha => by
    obtain ⟨k9, hk9⟩ := va_pl_get (X := X) (f := f) ha
    exact (hP k9 _ hk9).lt
  have hnl : ∀ i : Nat, i < n.toNatClampNeg → H.size + 1 + i ∉ L := fun i _ h => by
    have := hlt _ h
    omega
  have hnm : ∀ a, a ∈ (List.range n.toNatClampNeg).map (fun i => H.size + 1 + i) → a ∉ L := fun a ha h => by
    obtain ⟨i, -, rfl⟩ := List.mem_map.mp ha
    have := hlt _ h
    omega
  have hP0 : va_P D cl (X ++ va_pl L f) F.heap := hP.kept (fun k9 x hx => hold x.1 ((hP k9 x hx).lt))
  have hP1 : va_P D cl ((X ++ va_pl L f) ++ [(H.size, .inl (cA, n.toNatClampNeg, .inr (.inr (.inr (.inr (fun i => if i < n.toNatClampNeg then some (H.size + 1 + i) else none))))))]) F.heap := hP0.app (fun k9 x hx => by
    have h0 : k9 < 1 := (List.getElem?_eq_some_iff.mp hx).1
    rw [show k9 = 0 by omega] at hx
    cases hx
    exact f2)
  have hP2 : va_P D cl (((X ++ va_pl L f) ++ [(H.size, .inl (cA, n.toNatClampNeg, .inr (.inr (.inr (.inr (fun i => if i < n.toNatClampNeg then some (H.size + 1 + i) else none))))))]) ++ ((List.range n.toNatClampNeg).map (fun i => H.size + 1 + i)).map (fun a => (a, .inl (cy, z)))) F.heap := hP1.app (fun k9 x hx => by
    obtain ⟨a, ha, rfl⟩ := List.mem_map.mp (List.mem_of_getElem? hx)
    obtain ⟨i, hi, rfl⟩ := List.mem_map.mp ha
    exact hrow i (List.mem_range.mp hi))
  have hD2 : va_D A (((X ++ va_pl L f) ++ [(H.size, .inl (cA, n.toNatClampNeg, .inr (.inr (.inr (.inr (fun i => if i < n.toNatClampNeg then some (H.size + 1 + i) else none))))))]) ++ ((List.range n.toNatClampNeg).map (fun i => H.size + 1 + i)).map (fun a => (a, .inl (cy, z)))) := by
    have hD1 := hD.push (e := .inl (cA, n.toNatClampNeg, .inr (.inr (.inr (.inr (fun i => if i < n.toNatClampNeg then some (H.size + 1 + i) else none)))))) hP rfl (hA _ hS.1)
    generalize hW1 : (X ++ va_pl L f) ++ [(H.size, .inl (cA, n.toNatClampNeg, .inr (.inr (.inr (.inr (fun i => if i < n.toNatClampNeg then some (H.size + 1 + i) else none))))))] = W1 at hD1 hP1 ⊢
    have hle : ∀ (k9 : Nat) (x : Nat × va_E), W1[k9]? = some x → x.1 ≤ H.size := fun k9 x hx => by
      rw [← hW1] at hx
      by_cases hl : k9 < (X ++ va_pl L f).length
      · rw [List.getElem?_append_left hl] at hx
        exact Nat.le_of_lt ((hP k9 x hx).lt)
      · rw [List.getElem?_append_right (by omega)] at hx
        have h0 : k9 - (X ++ va_pl L f).length < 1 := (List.getElem?_eq_some_iff.mp hx).1
        rw [show k9 - (X ++ va_pl L f).length = 0 by omega] at hx
        cases hx
        exact Nat.le_refl _
    have hr : ∀ (k9 : Nat) (x : Nat × va_E), (((List.range n.toNatClampNeg).map (fun i => H.size + 1 + i)).map (fun a => ((a, .inl (cy, z)) : Nat × va_E)))[k9]? = some x → x.1 = H.size + 1 + k9 := fun k9 x hx => by
      rw [List.getElem?_map, List.getElem?_map] at hx
      by_cases h9 : k9 < n.toNatClampNeg
      · rw [List.getElem?_range h9] at hx
        cases hx
        rfl
      · have hn0 : (List.range n.toNatClampNeg)[k9]? = none := List.getElem?_eq_none (by rw [List.length_range]; omega)
        rw [hn0] at hx
        cases hx
    refine ⟨fun i j x y hi hj hxy => ?_, fun k9 x hx => ?_⟩
    · by_cases h1 : i < W1.length <;> by_cases h2 : j < W1.length
      · rw [List.getElem?_append_left h1] at hi
        rw [List.getElem?_append_left h2] at hj
        exact hD1.1 i j x y hi hj hxy
      · rw [List.getElem?_append_left h1] at hi
        rw [List.getElem?_append_right (by omega)] at hj
        have := hle _ _ hi
        have := hr _ _ hj
        omega
      · rw [List.getElem?_append_right (by omega)] at hi
        rw [List.getElem?_append_left h2] at hj
        have := hle _ _ hj
        have := hr _ _ hi
        omega
      · rw [List.getElem?_append_right (by omega)] at hi hj
        have := hr _ _ hi
        have := hr _ _ hj
        omega
    · by_cases h1 : k9 < W1.length
      · rw [List.getElem?_append_left h1] at hx
        exact hD1.2 k9 x hx
      · rw [List.getElem?_append_right (by omega)] at hx
        have := hr _ _ hx
        exact hA _ (by have := hS.1; omega)
  have hAr : ArrOfT s cA (.array ty) := fun N9 z9 => by
    obtain ⟨-, k9, hk9, cm9, hkk9⟩ := (hO 0 0 0).1
    exact ⟨(fun q hq => by cases hq), k9, hk9, cm9, hkk9⟩
  have hK2 : va_K D cl (tys ++ [(cA, .array ty)]) s := ⟨hK.1, fun k9 x hx => by
    by_cases hl : k9 < tys.length
    · rw [List.getElem?_append_left hl] at hx
      exact hK.2 k9 x hx
    · rw [List.getElem?_append_right (by omega)] at hx
      have h0 : k9 - tys.length < 1 := (List.getElem?_eq_some_iff.mp hx).1
      rw [show k9 - tys.length = 0 by omega] at hx
      cases hx
      exact ⟨hAr, fA⟩⟩
  obtain ⟨t, a1, b1⟩ := kk H.size (fun i => H.size + 1 + i) cA F.heap (fun i j _ _ h => by have h9 : H.size + 1 + i = H.size + 1 + j := h; omega) hnl hK2 (by rw [← vr_rows hnm]; exact vr_lay hP2) (by rw [← vr_rows hnm]; exact vr_layD hD2) ⟨by rw [f1]; have := hS.1; omega, fun x h1 h2 => (hold x (Nat.lt_of_lt_of_le h1 hS.1)).trans (hS.2.1 x h1 h2), hS.2.2⟩ F rfl X'
  refine ⟨t, step t ?_, b1⟩
  have e : T.heap.size = H.size := by rw [hT]
  rw [e]
  exact a1
end VGM
/-! ===== END ===== -/

/-! ===== BEGIN printed: names, fields, word lists, decode rows ===== -/
def RX0 : String := "SubstitutionMachine$Extended"
def TX0 : u_T := fun k => match k with
  | 0 => ("SubstitutionMachine$Extended", "tokens", "[I", true)
  | 1 => ("SubstitutionMachine$Extended", "entries", "[I", true)
  | 2 => ("SubstitutionMachine$Extended", "shifts", "[I", true)
  | 3 => ("SubstitutionMachine$Extended", "length", "I", false)
  | _ => ("SubstitutionMachine$Extended", "tooLarge", "Z", false)
def tyX0 : Nat → FieldType := fun k => match k with
  | 0 => .array .int
  | 1 => .array .int
  | 2 => .array .int
  | 3 => .int
  | _ => .boolean
abbrev wsX00 : List Cond := u_ws RX0 TX0 5
theorem nmX0 : ∀ a, a < 5 → ∀ b, b < 5 → a ≠ b → (TX0 a).2.1 ≠ (TX0 b).2.1 := by decide +kernel
theorem tyX0_ok : ∀ k, k < 5 → parseFieldDescriptor (TX0 k).2.2.1 = some (tyX0 k) := by decide +kernel
abbrev cX0_init : ByteArray := prog_2_method_1_code
def yX0_init : MethodName := ⟨RX0, "<init>", "()V"⟩
abbrev cX0_length : ByteArray := prog_2_method_2_code
def yX0_length : MethodName := ⟨RX0, "length", "()I"⟩
abbrev cX0_isTooLarge : ByteArray := prog_2_method_3_code
def yX0_isTooLarge : MethodName := ⟨RX0, "isTooLarge", "()Z"⟩
abbrev cX0_token : ByteArray := prog_2_method_4_code
def yX0_token : MethodName := ⟨RX0, "token", "(I)I"⟩
abbrev cX0_entriesAt : ByteArray := prog_2_method_5_code
def yX0_entriesAt : MethodName := ⟨RX0, "entriesAt", "(I)I"⟩
abbrev cX0_shiftAt : ByteArray := prog_2_method_6_code
def yX0_shiftAt : MethodName := ⟨RX0, "shiftAt", "(I)I"⟩
abbrev cX0_clear : ByteArray := prog_2_method_7_code
def yX0_clear : MethodName := ⟨RX0, "clear", "()V"⟩
abbrev cX0_add : ByteArray := prog_2_method_8_code
def yX0_add : MethodName := ⟨RX0, "add", "(I)V"⟩
abbrev cX0_addClosure : ByteArray := prog_2_method_9_code
def yX0_addClosure : MethodName := ⟨RX0, "addClosure", "(II)V"⟩
abbrev cX0_put : ByteArray := prog_2_method_10_code
def yX0_put : MethodName := ⟨RX0, "put", "(III)V"⟩
abbrev cX0_addRange : ByteArray := prog_2_method_11_code
def yX0_addRange : MethodName := ⟨RX0, "addRange", "(LSubstitutionMachine$Extended;II)V"⟩
abbrev cX0_behind : ByteArray := prog_2_method_12_code
def yX0_behind : MethodName := ⟨RX0, "behind", "(II)I"⟩
def RX1 : String := "SubstitutionMachine$History"
def TX1 : u_T := fun k => match k with
  | 0 => ("SubstitutionMachine$History", "rows", "[[I", true)
  | 1 => ("SubstitutionMachine$History", "lengths", "[I", true)
  | 2 => ("SubstitutionMachine$History", "count", "I", false)
  | _ => ("SubstitutionMachine$History", "place", "I", false)
def tyX1 : Nat → FieldType := fun k => match k with
  | 0 => .array (.array .int)
  | 1 => .array .int
  | 2 => .int
  | _ => .int
abbrev wsX10 : List Cond := u_ws RX1 TX1 4
theorem nmX1 : ∀ a, a < 4 → ∀ b, b < 4 → a ≠ b → (TX1 a).2.1 ≠ (TX1 b).2.1 := by decide +kernel
theorem tyX1_ok : ∀ k, k < 4 → parseFieldDescriptor (TX1 k).2.2.1 = some (tyX1 k) := by decide +kernel
abbrev cX1_init : ByteArray := prog_3_method_1_code
def yX1_init : MethodName := ⟨RX1, "<init>", "()V"⟩
abbrev cX1_count : ByteArray := prog_3_method_2_code
def yX1_count : MethodName := ⟨RX1, "count", "()I"⟩
abbrev cX1_forgetAll : ByteArray := prog_3_method_3_code
def yX1_forgetAll : MethodName := ⟨RX1, "forgetAll", "()V"⟩
abbrev cX1_remember : ByteArray := prog_3_method_4_code
def yX1_remember : MethodName := ⟨RX1, "remember", "(LSubstitutionMachine$Term;)V"⟩
abbrev cX1_takeBack : ByteArray := prog_3_method_5_code
def yX1_takeBack : MethodName := ⟨RX1, "takeBack", "(LSubstitutionMachine$Term;)Z"⟩
def RX2 : String := "SubstitutionMachine$Machine"
def TX2 : u_T := fun k => match k with
  | 0 => ("SubstitutionMachine$Machine", "present", "LSubstitutionMachine$Extended;", false)
  | 1 => ("SubstitutionMachine$Machine", "next", "LSubstitutionMachine$Extended;", false)
  | 2 => ("SubstitutionMachine$Machine", "applied", "[I", true)
  | _ => ("SubstitutionMachine$Machine", "peak", "I", false)
def tyX2 : Nat → FieldType := fun k => match k with
  | 0 => .object "SubstitutionMachine$Extended"
  | 1 => .object "SubstitutionMachine$Extended"
  | 2 => .array .int
  | _ => .int
abbrev wsX20 : List Cond := u_ws RX2 TX2 4
theorem nmX2 : ∀ a, a < 4 → ∀ b, b < 4 → a ≠ b → (TX2 a).2.1 ≠ (TX2 b).2.1 := by decide +kernel
theorem tyX2_ok : ∀ k, k < 4 → parseFieldDescriptor (TX2 k).2.2.1 = some (tyX2 k) := by decide +kernel
abbrev cX2_init : ByteArray := prog_4_method_1_code
def yX2_init : MethodName := ⟨RX2, "<init>", "()V"⟩
abbrev cX2_peak : ByteArray := prog_4_method_2_code
def yX2_peak : MethodName := ⟨RX2, "peak", "()I"⟩
abbrev cX2_applications : ByteArray := prog_4_method_3_code
def yX2_applications : MethodName := ⟨RX2, "applications", "(I)I"⟩
abbrev cX2_work : ByteArray := prog_4_method_4_code
def yX2_work : MethodName := ⟨RX2, "work", "(LSubstitutionMachine$Term;Z)Z"⟩
abbrev cX2_start : ByteArray := prog_4_method_5_code
def yX2_start : MethodName := ⟨RX2, "start", "(LSubstitutionMachine$Term;)V"⟩
abbrev cX2_firstPlace : ByteArray := prog_4_method_6_code
def yX2_firstPlace : MethodName := ⟨RX2, "firstPlace", "(Z)I"⟩
abbrev cX2_ruleAt : ByteArray := prog_4_method_7_code
def yX2_ruleAt : MethodName := ⟨RX2, "ruleAt", "(IZ)I"⟩
abbrev cX2_rewrite : ByteArray := prog_4_method_8_code
def yX2_rewrite : MethodName := ⟨RX2, "rewrite", "(II)V"⟩
abbrev cX2_writeBeta : ByteArray := prog_4_method_9_code
def yX2_writeBeta : MethodName := ⟨RX2, "writeBeta", "(I)V"⟩
abbrev cX2_writeApply : ByteArray := prog_4_method_10_code
def yX2_writeApply : MethodName := ⟨RX2, "writeApply", "(I)V"⟩
abbrev cX2_writeAbstract : ByteArray := prog_4_method_11_code
def yX2_writeAbstract : MethodName := ⟨RX2, "writeAbstract", "(I)V"⟩
abbrev cX2_writeLookup : ByteArray := prog_4_method_12_code
def yX2_writeLookup : MethodName := ⟨RX2, "writeLookup", "(I)V"⟩
abbrev cX2_writeMerge : ByteArray := prog_4_method_13_code
def yX2_writeMerge : MethodName := ⟨RX2, "writeMerge", "(I)V"⟩
def RX3 : String := "SubstitutionMachine$Observations"
def TX3 : u_T := fun k => match k with
  | 0 => ("SubstitutionMachine$Observations", "limits", "[I", true)
  | 1 => ("SubstitutionMachine$Observations", "values", "[I", true)
  | _ => ("SubstitutionMachine$Observations", "count", "I", false)
def tyX3 : Nat → FieldType := fun k => match k with
  | 0 => .array .int
  | 1 => .array .int
  | _ => .int
abbrev wsX30 : List Cond := u_ws RX3 TX3 3
theorem nmX3 : ∀ a, a < 3 → ∀ b, b < 3 → a ≠ b → (TX3 a).2.1 ≠ (TX3 b).2.1 := by decide +kernel
theorem tyX3_ok : ∀ k, k < 3 → parseFieldDescriptor (TX3 k).2.2.1 = some (tyX3 k) := by decide +kernel
abbrev cX3_init : ByteArray := prog_5_method_1_code
def yX3_init : MethodName := ⟨RX3, "<init>", "()V"⟩
abbrev cX3_count : ByteArray := prog_5_method_2_code
def yX3_count : MethodName := ⟨RX3, "count", "()I"⟩
abbrev cX3_add : ByteArray := prog_5_method_3_code
def yX3_add : MethodName := ⟨RX3, "add", "(II)V"⟩
abbrev cX3_dropOldest : ByteArray := prog_5_method_4_code
def yX3_dropOldest : MethodName := ⟨RX3, "dropOldest", "()V"⟩
abbrev cX3_keepUpTo : ByteArray := prog_5_method_5_code
def yX3_keepUpTo : MethodName := ⟨RX3, "keepUpTo", "(I)V"⟩
abbrev cX3_greatestLimit : ByteArray := prog_5_method_6_code
def yX3_greatestLimit : MethodName := ⟨RX3, "greatestLimit", "()I"⟩
abbrev cX3_allow : ByteArray := prog_5_method_7_code
def yX3_allow : MethodName := ⟨RX3, "allow", "(II)Z"⟩
def RX4 : String := "SubstitutionMachine$Outline"
def TX4 : u_T := fun k => match k with
  | 0 => ("SubstitutionMachine$Outline", "ends", "[I", true)
  | 1 => ("SubstitutionMachine$Outline", "depths", "[I", true)
  | _ => ("SubstitutionMachine$Outline", "length", "I", false)
def tyX4 : Nat → FieldType := fun k => match k with
  | 0 => .array .int
  | 1 => .array .int
  | _ => .int
abbrev wsX40 : List Cond := u_ws RX4 TX4 3
theorem nmX4 : ∀ a, a < 3 → ∀ b, b < 3 → a ≠ b → (TX4 a).2.1 ≠ (TX4 b).2.1 := by decide +kernel
theorem tyX4_ok : ∀ k, k < 3 → parseFieldDescriptor (TX4 k).2.2.1 = some (tyX4 k) := by decide +kernel
abbrev cX4_init : ByteArray := prog_6_method_1_code
def yX4_init : MethodName := ⟨RX4, "<init>", "()V"⟩
abbrev cX4_measure : ByteArray := prog_6_method_2_code
def yX4_measure : MethodName := ⟨RX4, "measure", "(LSubstitutionMachine$Term;)V"⟩
abbrev cX4_endAt : ByteArray := prog_6_method_3_code
def yX4_endAt : MethodName := ⟨RX4, "endAt", "(I)I"⟩
abbrev cX4_depthAt : ByteArray := prog_6_method_4_code
def yX4_depthAt : MethodName := ⟨RX4, "depthAt", "(I)I"⟩
abbrev cX4_measureEnds : ByteArray := prog_6_method_5_code
def yX4_measureEnds : MethodName := ⟨RX4, "measureEnds", "(LSubstitutionMachine$Term;)V"⟩
abbrev cX4_measureDepths : ByteArray := prog_6_method_6_code
def yX4_measureDepths : MethodName := ⟨RX4, "measureDepths", "(LSubstitutionMachine$Term;)V"⟩
abbrev cX4_setDepth : ByteArray := prog_6_method_7_code
def yX4_setDepth : MethodName := ⟨RX4, "setDepth", "(II)V"⟩
def RX5 : String := "SubstitutionMachine$Reducer"
def TX5 : u_T := fun k => match k with
  | 0 => ("SubstitutionMachine$Reducer", "outline", "LSubstitutionMachine$Outline;", true)
  | 1 => ("SubstitutionMachine$Reducer", "insertedOutline", "LSubstitutionMachine$Outline;", true)
  | _ => ("SubstitutionMachine$Reducer", "result", "LSubstitutionMachine$Term;", true)
def tyX5 : Nat → FieldType := fun k => match k with
  | 0 => .object "SubstitutionMachine$Outline"
  | 1 => .object "SubstitutionMachine$Outline"
  | _ => .object "SubstitutionMachine$Term"
abbrev wsX50 : List Cond := u_ws RX5 TX5 3
theorem nmX5 : ∀ a, a < 3 → ∀ b, b < 3 → a ≠ b → (TX5 a).2.1 ≠ (TX5 b).2.1 := by decide +kernel
theorem tyX5_ok : ∀ k, k < 3 → parseFieldDescriptor (TX5 k).2.2.1 = some (tyX5 k) := by decide +kernel
abbrev cX5_init : ByteArray := prog_7_method_1_code
def yX5_init : MethodName := ⟨RX5, "<init>", "()V"⟩
abbrev cX5_isRedex : ByteArray := prog_7_method_2_code
def yX5_isRedex : MethodName := ⟨RX5, "isRedex", "(LSubstitutionMachine$Term;I)Z"⟩
abbrev cX5_countRedexes : ByteArray := prog_7_method_3_code
def yX5_countRedexes : MethodName := ⟨RX5, "countRedexes", "(LSubstitutionMachine$Term;)I"⟩
abbrev cX5_nextRedex : ByteArray := prog_7_method_4_code
def yX5_nextRedex : MethodName := ⟨RX5, "nextRedex", "(LSubstitutionMachine$Term;I)I"⟩
abbrev cX5_numberedRedex : ByteArray := prog_7_method_5_code
def yX5_numberedRedex : MethodName := ⟨RX5, "numberedRedex", "(LSubstitutionMachine$Term;I)I"⟩
abbrev cX5_choose : ByteArray := prog_7_method_6_code
def yX5_choose : MethodName := ⟨RX5, "choose", "(LSubstitutionMachine$Term;I)I"⟩
abbrev cX5_leftmostInnermost : ByteArray := prog_7_method_7_code
def yX5_leftmostInnermost : MethodName := ⟨RX5, "leftmostInnermost", "(LSubstitutionMachine$Term;)I"⟩
abbrev cX5_lastRedex : ByteArray := prog_7_method_8_code
def yX5_lastRedex : MethodName := ⟨RX5, "lastRedex", "(LSubstitutionMachine$Term;)I"⟩
abbrev cX5_weakHead : ByteArray := prog_7_method_9_code
def yX5_weakHead : MethodName := ⟨RX5, "weakHead", "(LSubstitutionMachine$Term;)I"⟩
abbrev cX5_perform : ByteArray := prog_7_method_10_code
def yX5_perform : MethodName := ⟨RX5, "perform", "(LSubstitutionMachine$Term;II)I"⟩
abbrev cX5_contract : ByteArray := prog_7_method_11_code
def yX5_contract : MethodName := ⟨RX5, "contract", "(LSubstitutionMachine$Term;I)Z"⟩
abbrev cX5_addContracted : ByteArray := prog_7_method_12_code
def yX5_addContracted : MethodName := ⟨RX5, "addContracted", "(LSubstitutionMachine$Term;III)V"⟩
abbrev cX5_replaceFree : ByteArray := prog_7_method_13_code
def yX5_replaceFree : MethodName := ⟨RX5, "replaceFree", "(LSubstitutionMachine$Term;ILSubstitutionMachine$Term;)Z"⟩
abbrev cX5_addShifted : ByteArray := prog_7_method_14_code
def yX5_addShifted : MethodName := ⟨RX5, "addShifted", "(LSubstitutionMachine$Term;LSubstitutionMachine$Outline;III)V"⟩
abbrev cX5_takeResult : ByteArray := prog_7_method_15_code
def yX5_takeResult : MethodName := ⟨RX5, "takeResult", "(LSubstitutionMachine$Term;)Z"⟩
def RX6 : String := "SubstitutionMachine$Term"
def TX6 : u_T := fun k => match k with
  | 0 => ("SubstitutionMachine$Term", "tokens", "[I", true)
  | 1 => ("SubstitutionMachine$Term", "length", "I", false)
  | _ => ("SubstitutionMachine$Term", "tooLarge", "Z", false)
def tyX6 : Nat → FieldType := fun k => match k with
  | 0 => .array .int
  | 1 => .int
  | _ => .boolean
abbrev wsX60 : List Cond := u_ws RX6 TX6 3
theorem nmX6 : ∀ a, a < 3 → ∀ b, b < 3 → a ≠ b → (TX6 a).2.1 ≠ (TX6 b).2.1 := by decide +kernel
theorem tyX6_ok : ∀ k, k < 3 → parseFieldDescriptor (TX6 k).2.2.1 = some (tyX6 k) := by decide +kernel
abbrev cX6_init : ByteArray := prog_8_method_1_code
def yX6_init : MethodName := ⟨RX6, "<init>", "()V"⟩
abbrev cX6_length : ByteArray := prog_8_method_2_code
def yX6_length : MethodName := ⟨RX6, "length", "()I"⟩
abbrev cX6_isTooLarge : ByteArray := prog_8_method_3_code
def yX6_isTooLarge : MethodName := ⟨RX6, "isTooLarge", "()Z"⟩
abbrev cX6_has : ByteArray := prog_8_method_4_code
def yX6_has : MethodName := ⟨RX6, "has", "(I)Z"⟩
abbrev cX6_token : ByteArray := prog_8_method_5_code
def yX6_token : MethodName := ⟨RX6, "token", "(I)I"⟩
abbrev cX6_clear : ByteArray := prog_8_method_6_code
def yX6_clear : MethodName := ⟨RX6, "clear", "()V"⟩
abbrev cX6_add : ByteArray := prog_8_method_7_code
def yX6_add : MethodName := ⟨RX6, "add", "(I)V"⟩
abbrev cX6_addRange : ByteArray := prog_8_method_8_code
def yX6_addRange : MethodName := ⟨RX6, "addRange", "(LSubstitutionMachine$Term;II)V"⟩
abbrev cX6_copyFrom : ByteArray := prog_8_method_9_code
def yX6_copyFrom : MethodName := ⟨RX6, "copyFrom", "(LSubstitutionMachine$Term;)V"⟩
abbrev cX6_wrapInAbstraction : ByteArray := prog_8_method_10_code
def yX6_wrapInAbstraction : MethodName := ⟨RX6, "wrapInAbstraction", "()Z"⟩
abbrev cX6_hasSameTokens : ByteArray := prog_8_method_11_code
def yX6_hasSameTokens : MethodName := ⟨RX6, "hasSameTokens", "(LSubstitutionMachine$Term;)Z"⟩
def RX7 : String := "SubstitutionMachine$TermText"
def TX7 : u_T := fun k => match k with
  | 0 => ("SubstitutionMachine$TermText", "codes", "[I", true)
  | _ => ("SubstitutionMachine$TermText", "length", "I", false)
def tyX7 : Nat → FieldType := fun k => match k with
  | 0 => .array .int
  | _ => .int
abbrev wsX70 : List Cond := u_ws RX7 TX7 2
theorem nmX7 : ∀ a, a < 2 → ∀ b, b < 2 → a ≠ b → (TX7 a).2.1 ≠ (TX7 b).2.1 := by decide +kernel
theorem tyX7_ok : ∀ k, k < 2 → parseFieldDescriptor (TX7 k).2.2.1 = some (tyX7 k) := by decide +kernel
abbrev cX7_init : ByteArray := prog_9_method_1_code
def yX7_init : MethodName := ⟨RX7, "<init>", "()V"⟩
abbrev cX7_length : ByteArray := prog_9_method_2_code
def yX7_length : MethodName := ⟨RX7, "length", "()I"⟩
abbrev cX7_put : ByteArray := prog_9_method_3_code
def yX7_put : MethodName := ⟨RX7, "put", "(I)Z"⟩
abbrev cX7_clear : ByteArray := prog_9_method_4_code
def yX7_clear : MethodName := ⟨RX7, "clear", "()V"⟩
abbrev cX7_firstError : ByteArray := prog_9_method_5_code
def yX7_firstError : MethodName := ⟨RX7, "firstError", "()I"⟩
abbrev cX7_writeTo : ByteArray := prog_9_method_6_code
def yX7_writeTo : MethodName := ⟨RX7, "writeTo", "(LSubstitutionMachine$Term;)V"⟩
abbrev cX7_tokenOf : ByteArray := prog_9_method_7_code
def yX7_tokenOf : MethodName := ⟨RX7, "tokenOf", "(I)I"⟩
def RX8 : String := "SubstitutionMachine"
def TX8 : u_T := fun k => match k with
  | 0 => ("SubstitutionMachine", "term", "LSubstitutionMachine$Term;", true)
  | 1 => ("SubstitutionMachine", "copy", "LSubstitutionMachine$Term;", true)
  | 2 => ("SubstitutionMachine", "trial", "LSubstitutionMachine$Term;", true)
  | 3 => ("SubstitutionMachine", "firstSlot", "LSubstitutionMachine$Term;", true)
  | 4 => ("SubstitutionMachine", "secondSlot", "LSubstitutionMachine$Term;", true)
  | 5 => ("SubstitutionMachine", "outline", "LSubstitutionMachine$Outline;", true)
  | 6 => ("SubstitutionMachine", "reducer", "LSubstitutionMachine$Reducer;", true)
  | 7 => ("SubstitutionMachine", "machine", "LSubstitutionMachine$Machine;", true)
  | 8 => ("SubstitutionMachine", "history", "LSubstitutionMachine$History;", true)
  | 9 => ("SubstitutionMachine", "text", "LSubstitutionMachine$TermText;", true)
  | 10 => ("SubstitutionMachine", "observations", "LSubstitutionMachine$Observations;", true)
  | _ => ("SubstitutionMachine", "randomSeed", "J", false)
def tyX8 : Nat → FieldType := fun k => match k with
  | 0 => .object "SubstitutionMachine$Term"
  | 1 => .object "SubstitutionMachine$Term"
  | 2 => .object "SubstitutionMachine$Term"
  | 3 => .object "SubstitutionMachine$Term"
  | 4 => .object "SubstitutionMachine$Term"
  | 5 => .object "SubstitutionMachine$Outline"
  | 6 => .object "SubstitutionMachine$Reducer"
  | 7 => .object "SubstitutionMachine$Machine"
  | 8 => .object "SubstitutionMachine$History"
  | 9 => .object "SubstitutionMachine$TermText"
  | 10 => .object "SubstitutionMachine$Observations"
  | _ => .long
abbrev wsX80 : List Cond := u_ws RX8 TX8 12
theorem nmX8 : ∀ a, a < 12 → ∀ b, b < 12 → a ≠ b → (TX8 a).2.1 ≠ (TX8 b).2.1 := by decide +kernel
theorem tyX8_ok : ∀ k, k < 12 → parseFieldDescriptor (TX8 k).2.2.1 = some (tyX8 k) := by decide +kernel
abbrev cX8_init : ByteArray := prog_1_method_1_code
def yX8_init : MethodName := ⟨RX8, "<init>", "()V"⟩
abbrev cX8_append : ByteArray := prog_1_method_2_code
def yX8_append : MethodName := ⟨RX8, "append", "(I)I"⟩
abbrev cX8_clearText : ByteArray := prog_1_method_3_code
def yX8_clearText : MethodName := ⟨RX8, "clearText", "()I"⟩
abbrev cX8_errorPosition : ByteArray := prog_1_method_4_code
def yX8_errorPosition : MethodName := ⟨RX8, "errorPosition", "()I"⟩
abbrev cX8_load : ByteArray := prog_1_method_5_code
def yX8_load : MethodName := ⟨RX8, "load", "()I"⟩
abbrev cX8_size : ByteArray := prog_1_method_6_code
def yX8_size : MethodName := ⟨RX8, "size", "()I"⟩
abbrev cX8_tokenAt : ByteArray := prog_1_method_7_code
def yX8_tokenAt : MethodName := ⟨RX8, "tokenAt", "(I)I"⟩
abbrev cX8_nameAt : ByteArray := prog_1_method_8_code
def yX8_nameAt : MethodName := ⟨RX8, "nameAt", "(I)I"⟩
abbrev cX8_redexCount : ByteArray := prog_1_method_9_code
def yX8_redexCount : MethodName := ⟨RX8, "redexCount", "()I"⟩
abbrev cX8_chosenRedex : ByteArray := prog_1_method_10_code
def yX8_chosenRedex : MethodName := ⟨RX8, "chosenRedex", "(I)I"⟩
abbrev cX8_freeVariables : ByteArray := prog_1_method_11_code
def yX8_freeVariables : MethodName := ⟨RX8, "freeVariables", "()I"⟩
abbrev cX8_step : ByteArray := prog_1_method_12_code
def yX8_step : MethodName := ⟨RX8, "step", "(I)I"⟩
abbrev cX8_run : ByteArray := prog_1_method_13_code
def yX8_run : MethodName := ⟨RX8, "run", "(II)I"⟩
abbrev cX8_abstractTerm : ByteArray := prog_1_method_14_code
def yX8_abstractTerm : MethodName := ⟨RX8, "abstractTerm", "()I"⟩
abbrev cX8_applyTo : ByteArray := prog_1_method_15_code
def yX8_applyTo : MethodName := ⟨RX8, "applyTo", "(I)I"⟩
abbrev cX8_substitute : ByteArray := prog_1_method_16_code
def yX8_substitute : MethodName := ⟨RX8, "substitute", "(II)I"⟩
abbrev cX8_undo : ByteArray := prog_1_method_17_code
def yX8_undo : MethodName := ⟨RX8, "undo", "()I"⟩
abbrev cX8_stepsOfRun : ByteArray := prog_1_method_18_code
def yX8_stepsOfRun : MethodName := ⟨RX8, "stepsOfRun", "(II)I"⟩
abbrev cX8_sizeAfterRun : ByteArray := prog_1_method_19_code
def yX8_sizeAfterRun : MethodName := ⟨RX8, "sizeAfterRun", "(II)I"⟩
abbrev cX8_normalSize : ByteArray := prog_1_method_20_code
def yX8_normalSize : MethodName := ⟨RX8, "normalSize", "()I"⟩
abbrev cX8_normalTokenAt : ByteArray := prog_1_method_21_code
def yX8_normalTokenAt : MethodName := ⟨RX8, "normalTokenAt", "(I)I"⟩
abbrev cX8_isEquivalent : ByteArray := prog_1_method_22_code
def yX8_isEquivalent : MethodName := ⟨RX8, "isEquivalent", "(I)I"⟩
abbrev cX8_machineSteps : ByteArray := prog_1_method_23_code
def yX8_machineSteps : MethodName := ⟨RX8, "machineSteps", "(II)I"⟩
abbrev cX8_machinePeak : ByteArray := prog_1_method_24_code
def yX8_machinePeak : MethodName := ⟨RX8, "machinePeak", "(I)I"⟩
abbrev cX8_runScript : ByteArray := prog_1_method_25_code
def yX8_runScript : MethodName := ⟨RX8, "runScript", "(IJ)I"⟩
abbrev cX8_observe : ByteArray := prog_1_method_26_code
def yX8_observe : MethodName := ⟨RX8, "observe", "(II)I"⟩
abbrev cX8_forgetAfter : ByteArray := prog_1_method_27_code
def yX8_forgetAfter : MethodName := ⟨RX8, "forgetAfter", "(I)I"⟩
abbrev cX8_possibleStrategies : ByteArray := prog_1_method_28_code
def yX8_possibleStrategies : MethodName := ⟨RX8, "possibleStrategies", "()I"⟩
abbrev cX8_setSeed : ByteArray := prog_1_method_29_code
def yX8_setSeed : MethodName := ⟨RX8, "setSeed", "(J)J"⟩
abbrev cX8_randomReduction : ByteArray := prog_1_method_30_code
def yX8_randomReduction : MethodName := ⟨RX8, "randomReduction", "(I)I"⟩
abbrev cX8_save : ByteArray := prog_1_method_31_code
def yX8_save : MethodName := ⟨RX8, "save", "(I)I"⟩
abbrev cX8_restore : ByteArray := prog_1_method_32_code
def yX8_restore : MethodName := ⟨RX8, "restore", "(I)I"⟩
abbrev cX8_isVariable : ByteArray := prog_1_method_33_code
def yX8_isVariable : MethodName := ⟨RX8, "isVariable", "(I)Z"⟩
abbrev cX8_parts : ByteArray := prog_1_method_34_code
def yX8_parts : MethodName := ⟨RX8, "parts", "(I)I"⟩
abbrev cX8_isStrategy : ByteArray := prog_1_method_35_code
def yX8_isStrategy : MethodName := ⟨RX8, "isStrategy", "(I)Z"⟩
abbrev cX8_isSlot : ByteArray := prog_1_method_36_code
def yX8_isSlot : MethodName := ⟨RX8, "isSlot", "(I)Z"⟩
abbrev cX8_isPrediction : ByteArray := prog_1_method_37_code
def yX8_isPrediction : MethodName := ⟨RX8, "isPrediction", "(II)Z"⟩
abbrev cX8_slotTerm : ByteArray := prog_1_method_38_code
def yX8_slotTerm : MethodName := ⟨RX8, "slotTerm", "(I)LSubstitutionMachine$Term;"⟩
abbrev cX8_actWithCopy : ByteArray := prog_1_method_39_code
def yX8_actWithCopy : MethodName := ⟨RX8, "actWithCopy", "()I"⟩
abbrev cX8_performOnCopy : ByteArray := prog_1_method_40_code
def yX8_performOnCopy : MethodName := ⟨RX8, "performOnCopy", "(II)I"⟩
abbrev cX8_normaliseInto : ByteArray := prog_1_method_41_code
def yX8_normaliseInto : MethodName := ⟨RX8, "normaliseInto", "(LSubstitutionMachine$Term;LSubstitutionMachine$Term;)Z"⟩
abbrev cX8_withoutLowGroups : ByteArray := prog_1_method_42_code
def yX8_withoutLowGroups : MethodName := ⟨RX8, "withoutLowGroups", "(JI)J"⟩
abbrev cX8_commandSucceeds : ByteArray := prog_1_method_43_code
def yX8_commandSucceeds : MethodName := ⟨RX8, "commandSucceeds", "(I)Z"⟩
abbrev cX8_observationsHold : ByteArray := prog_1_method_44_code
def yX8_observationsHold : MethodName := ⟨RX8, "observationsHold", "(I)Z"⟩
abbrev cX8_randomStepOnCopy : ByteArray := prog_1_method_45_code
def yX8_randomStepOnCopy : MethodName := ⟨RX8, "randomStepOnCopy", "()V"⟩
def RX9 : String := "SubstitutionMachineModel"
def TX9 : u_T := fun k => match k with
  | 0 => ("SubstitutionMachineModel", "thrown", "I", false)
  | 1 => ("SubstitutionMachineModel", "text", "[I", true)
  | 2 => ("SubstitutionMachineModel", "textSize", "I", false)
  | 3 => ("SubstitutionMachineModel", "term", "[I", true)
  | 4 => ("SubstitutionMachineModel", "work", "[I", true)
  | 5 => ("SubstitutionMachineModel", "other", "[I", true)
  | 6 => ("SubstitutionMachineModel", "out", "[I", true)
  | 7 => ("SubstitutionMachineModel", "history", "[I", true)
  | 8 => ("SubstitutionMachineModel", "remembered", "I", false)
  | 9 => ("SubstitutionMachineModel", "slots", "[I", true)
  | 10 => ("SubstitutionMachineModel", "slotUsed", "[Z", true)
  | 11 => ("SubstitutionMachineModel", "observed", "I", false)
  | 12 => ("SubstitutionMachineModel", "observedLimit", "[I", true)
  | 13 => ("SubstitutionMachineModel", "observedSize", "[I", true)
  | 14 => ("SubstitutionMachineModel", "seed", "J", false)
  | 15 => ("SubstitutionMachineModel", "depths", "[I", true)
  | 16 => ("SubstitutionMachineModel", "open", "[I", true)
  | 17 => ("SubstitutionMachineModel", "binds", "[Z", true)
  | 18 => ("SubstitutionMachineModel", "wide", "[I", true)
  | 19 => ("SubstitutionMachineModel", "next", "[I", true)
  | 20 => ("SubstitutionMachineModel", "tooWide", "Z", false)
  | 21 => ("SubstitutionMachineModel", "applied", "[I", true)
  | _ => ("SubstitutionMachineModel", "peak", "I", false)
def tyX9 : Nat → FieldType := fun k => match k with
  | 0 => .int
  | 1 => .array .int
  | 2 => .int
  | 3 => .array .int
  | 4 => .array .int
  | 5 => .array .int
  | 6 => .array .int
  | 7 => .array .int
  | 8 => .int
  | 9 => .array .int
  | 10 => .array .boolean
  | 11 => .int
  | 12 => .array .int
  | 13 => .array .int
  | 14 => .long
  | 15 => .array .int
  | 16 => .array .int
  | 17 => .array .boolean
  | 18 => .array .int
  | 19 => .array .int
  | 20 => .boolean
  | 21 => .array .int
  | _ => .int
abbrev wsX90 : List Cond := u_ws RX9 TX9 23
theorem nmX9 : ∀ a, a < 23 → ∀ b, b < 23 → a ≠ b → (TX9 a).2.1 ≠ (TX9 b).2.1 := by decide +kernel
theorem tyX9_ok : ∀ k, k < 23 → parseFieldDescriptor (TX9 k).2.2.1 = some (tyX9 k) := by decide +kernel
abbrev cX9_init : ByteArray := prog_11_method_1_code
def yX9_init : MethodName := ⟨RX9, "<init>", "()V"⟩
abbrev cX9_in : ByteArray := prog_11_method_3_code
def yX9_in : MethodName := ⟨RX9, "in", "(JJJ)Z"⟩
abbrev cX9_assign : ByteArray := prog_11_method_4_code
def yX9_assign : MethodName := ⟨RX9, "assign", "([I[I)V"⟩
abbrev cX9_isVariable : ByteArray := prog_11_method_5_code
def yX9_isVariable : MethodName := ⟨RX9, "isVariable", "(I)Z"⟩
abbrev cX9_parts : ByteArray := prog_11_method_6_code
def yX9_parts : MethodName := ⟨RX9, "parts", "(I)I"⟩
abbrev cX9_end : ByteArray := prog_11_method_7_code
def yX9_end : MethodName := ⟨RX9, "end", "([II)I"⟩
abbrev cX9_layDepths : ByteArray := prog_11_method_8_code
def yX9_layDepths : MethodName := ⟨RX9, "layDepths", "([III)V"⟩
abbrev cX9_isRedex : ByteArray := prog_11_method_9_code
def yX9_isRedex : MethodName := ⟨RX9, "isRedex", "([II)Z"⟩
abbrev cX9_redexes : ByteArray := prog_11_method_10_code
def yX9_redexes : MethodName := ⟨RX9, "redexes", "([I)I"⟩
abbrev cX9_isInnermost : ByteArray := prog_11_method_11_code
def yX9_isInnermost : MethodName := ⟨RX9, "isInnermost", "([II)Z"⟩
abbrev cX9_choose : ByteArray := prog_11_method_12_code
def yX9_choose : MethodName := ⟨RX9, "choose", "([II)I"⟩
abbrev cX9_put : ByteArray := prog_11_method_13_code
def yX9_put : MethodName := ⟨RX9, "put", "(I)Z"⟩
abbrev cX9_putShifted : ByteArray := prog_11_method_14_code
def yX9_putShifted : MethodName := ⟨RX9, "putShifted", "([IIII)Z"⟩
abbrev cX9_contract : ByteArray := prog_11_method_15_code
def yX9_contract : MethodName := ⟨RX9, "contract", "([II)Z"⟩
abbrev cX9_runOn : ByteArray := prog_11_method_16_code
def yX9_runOn : MethodName := ⟨RX9, "runOn", "([III)I"⟩
abbrev cX9_normalize : ByteArray := prog_11_method_17_code
def yX9_normalize : MethodName := ⟨RX9, "normalize", "([I)Z"⟩
abbrev cX9_append : ByteArray := prog_11_method_18_code
def yX9_append : MethodName := ⟨RX9, "append", "(I)I"⟩
abbrev cX9_clearText : ByteArray := prog_11_method_19_code
def yX9_clearText : MethodName := ⟨RX9, "clearText", "()I"⟩
abbrev cX9_tokenOf : ByteArray := prog_11_method_20_code
def yX9_tokenOf : MethodName := ⟨RX9, "tokenOf", "(I)I"⟩
abbrev cX9_errorPosition : ByteArray := prog_11_method_21_code
def yX9_errorPosition : MethodName := ⟨RX9, "errorPosition", "()I"⟩
abbrev cX9_load : ByteArray := prog_11_method_22_code
def yX9_load : MethodName := ⟨RX9, "load", "()I"⟩
abbrev cX9_size : ByteArray := prog_11_method_23_code
def yX9_size : MethodName := ⟨RX9, "size", "()I"⟩
abbrev cX9_tokenAt : ByteArray := prog_11_method_24_code
def yX9_tokenAt : MethodName := ⟨RX9, "tokenAt", "(I)I"⟩
abbrev cX9_nameAt : ByteArray := prog_11_method_25_code
def yX9_nameAt : MethodName := ⟨RX9, "nameAt", "(I)I"⟩
abbrev cX9_redexCount : ByteArray := prog_11_method_26_code
def yX9_redexCount : MethodName := ⟨RX9, "redexCount", "()I"⟩
abbrev cX9_chosenRedex : ByteArray := prog_11_method_27_code
def yX9_chosenRedex : MethodName := ⟨RX9, "chosenRedex", "(I)I"⟩
abbrev cX9_freeVariables : ByteArray := prog_11_method_28_code
def yX9_freeVariables : MethodName := ⟨RX9, "freeVariables", "()I"⟩
abbrev cX9_remember : ByteArray := prog_11_method_29_code
def yX9_remember : MethodName := ⟨RX9, "remember", "()V"⟩
abbrev cX9_commit : ByteArray := prog_11_method_30_code
def yX9_commit : MethodName := ⟨RX9, "commit", "()I"⟩
abbrev cX9_step : ByteArray := prog_11_method_31_code
def yX9_step : MethodName := ⟨RX9, "step", "(I)I"⟩
abbrev cX9_run : ByteArray := prog_11_method_32_code
def yX9_run : MethodName := ⟨RX9, "run", "(II)I"⟩
abbrev cX9_putBehind : ByteArray := prog_11_method_33_code
def yX9_putBehind : MethodName := ⟨RX9, "putBehind", "(I[I)Z"⟩
abbrev cX9_abstractTerm : ByteArray := prog_11_method_34_code
def yX9_abstractTerm : MethodName := ⟨RX9, "abstractTerm", "()I"⟩
abbrev cX9_takeSlot : ByteArray := prog_11_method_35_code
def yX9_takeSlot : MethodName := ⟨RX9, "takeSlot", "(I[I)V"⟩
abbrev cX9_applyTo : ByteArray := prog_11_method_36_code
def yX9_applyTo : MethodName := ⟨RX9, "applyTo", "(I)I"⟩
abbrev cX9_substitute : ByteArray := prog_11_method_37_code
def yX9_substitute : MethodName := ⟨RX9, "substitute", "(II)I"⟩
abbrev cX9_undo : ByteArray := prog_11_method_38_code
def yX9_undo : MethodName := ⟨RX9, "undo", "()I"⟩
abbrev cX9_stepsOfRun : ByteArray := prog_11_method_39_code
def yX9_stepsOfRun : MethodName := ⟨RX9, "stepsOfRun", "(II)I"⟩
abbrev cX9_sizeAfterRun : ByteArray := prog_11_method_40_code
def yX9_sizeAfterRun : MethodName := ⟨RX9, "sizeAfterRun", "(II)I"⟩
abbrev cX9_normalSize : ByteArray := prog_11_method_41_code
def yX9_normalSize : MethodName := ⟨RX9, "normalSize", "()I"⟩
abbrev cX9_normalTokenAt : ByteArray := prog_11_method_42_code
def yX9_normalTokenAt : MethodName := ⟨RX9, "normalTokenAt", "(I)I"⟩
abbrev cX9_isEquivalent : ByteArray := prog_11_method_43_code
def yX9_isEquivalent : MethodName := ⟨RX9, "isEquivalent", "(I)I"⟩
abbrev cX9_add : ByteArray := prog_11_method_44_code
def yX9_add : MethodName := ⟨RX9, "add", "(I)V"⟩
abbrev cX9_addPart : ByteArray := prog_11_method_45_code
def yX9_addPart : MethodName := ⟨RX9, "addPart", "(II)V"⟩
abbrev cX9_ruleAt : ByteArray := prog_11_method_46_code
def yX9_ruleAt : MethodName := ⟨RX9, "ruleAt", "(IZ)I"⟩
abbrev cX9_apply : ByteArray := prog_11_method_47_code
def yX9_apply : MethodName := ⟨RX9, "apply", "(II)V"⟩
abbrev cX9_merge : ByteArray := prog_11_method_48_code
def yX9_merge : MethodName := ⟨RX9, "merge", "(IIII)V"⟩
abbrev cX9_machine : ByteArray := prog_11_method_49_code
def yX9_machine : MethodName := ⟨RX9, "machine", "(Z)Z"⟩
abbrev cX9_machineSteps : ByteArray := prog_11_method_50_code
def yX9_machineSteps : MethodName := ⟨RX9, "machineSteps", "(II)I"⟩
abbrev cX9_machinePeak : ByteArray := prog_11_method_51_code
def yX9_machinePeak : MethodName := ⟨RX9, "machinePeak", "(I)I"⟩
abbrev cX9_command : ByteArray := prog_11_method_52_code
def yX9_command : MethodName := ⟨RX9, "command", "(III)Z"⟩
abbrev cX9_thousands : ByteArray := prog_11_method_53_code
def yX9_thousands : MethodName := ⟨RX9, "thousands", "(I)J"⟩
abbrev cX9_runScript : ByteArray := prog_11_method_54_code
def yX9_runScript : MethodName := ⟨RX9, "runScript", "(IJ)I"⟩
abbrev cX9_observe : ByteArray := prog_11_method_55_code
def yX9_observe : MethodName := ⟨RX9, "observe", "(II)I"⟩
abbrev cX9_forgetAfter : ByteArray := prog_11_method_56_code
def yX9_forgetAfter : MethodName := ⟨RX9, "forgetAfter", "(I)I"⟩
abbrev cX9_possibleStrategies : ByteArray := prog_11_method_57_code
def yX9_possibleStrategies : MethodName := ⟨RX9, "possibleStrategies", "()I"⟩
abbrev cX9_setSeed : ByteArray := prog_11_method_58_code
def yX9_setSeed : MethodName := ⟨RX9, "setSeed", "(J)J"⟩
abbrev cX9_redexNumber : ByteArray := prog_11_method_59_code
def yX9_redexNumber : MethodName := ⟨RX9, "redexNumber", "([II)I"⟩
abbrev cX9_randomReduction : ByteArray := prog_11_method_60_code
def yX9_randomReduction : MethodName := ⟨RX9, "randomReduction", "(I)I"⟩
abbrev cX9_save : ByteArray := prog_11_method_61_code
def yX9_save : MethodName := ⟨RX9, "save", "(I)I"⟩
abbrev cX9_restore : ByteArray := prog_11_method_62_code
def yX9_restore : MethodName := ⟨RX9, "restore", "(I)I"⟩
def RJ9 : String := "java/lang/Math"
def TJ9 : u_T := fun k => match k with
  | _ => ("", "", "", false)
def tyJ9 : Nat → FieldType := fun k => match k with
  | _ => .int
abbrev wsJ90 : List Cond := u_ws RJ9 TJ9 0
theorem nmJ9 : ∀ a, a < 0 → ∀ b, b < 0 → a ≠ b → (TJ9 a).2.1 ≠ (TJ9 b).2.1 := by decide +kernel
theorem tyJ9_ok : ∀ k, k < 0 → parseFieldDescriptor (TJ9 k).2.2.1 = some (tyJ9 k) := by decide +kernel
abbrev cJ9_max_7cf53 : ByteArray := prog_12_method_65_code
def yJ9_max_7cf53 : MethodName := ⟨RJ9, "max", "(II)I"⟩
abbrev cJ9_min_7cf53 : ByteArray := prog_12_method_69_code
def yJ9_min_7cf53 : MethodName := ⟨RJ9, "min", "(II)I"⟩
def RJ10 : String := "java/lang/System"
def TJ10 : u_T := fun k => match k with
  | _ => ("", "", "", false)
def tyJ10 : Nat → FieldType := fun k => match k with
  | _ => .int
abbrev wsJ100 : List Cond := u_ws RJ10 TJ10 0
theorem nmJ10 : ∀ a, a < 0 → ∀ b, b < 0 → a ≠ b → (TJ10 a).2.1 ≠ (TJ10 b).2.1 := by decide +kernel
theorem tyJ10_ok : ∀ k, k < 0 → parseFieldDescriptor (TJ10 k).2.2.1 = some (tyJ10 k) := by decide +kernel
def RL : String := "SubstitutionMachineLaw"
abbrev cL_law : ByteArray := code
def yL_law : MethodName := ⟨RL, "law", "([I)Z"⟩
def wsL_law_r1 : List Cond := [Cond.classLink RL 7 RX8, Cond.instantiable RX8 12, Cond.initialized RX8, Cond.classLink RL 10 RX9, Cond.instantiable RX9 23, Cond.initialized RX9, Cond.constantLong RL 108 (4294967295), Cond.methodLink RL 9 yX8_init, Cond.instanceMethod yX8_init, Cond.code yX8_init cX8_init 1 none, Cond.methodLink RX8 1 objectInit, Cond.instanceMethod objectInit, Cond.code objectInit ⟨#[0xb1]⟩ 1 none, Cond.classLink RX8 7 RX6, Cond.instantiable RX6 3, Cond.initialized RX6, Cond.fieldLink RX8 10 "SubstitutionMachine" "term" "LSubstitutionMachine$Term;", Cond.fieldLink RX8 16 "SubstitutionMachine" "copy" "LSubstitutionMachine$Term;", Cond.fieldLink RX8 19 "SubstitutionMachine" "trial" "LSubstitutionMachine$Term;", Cond.fieldLink RX8 22 "SubstitutionMachine" "firstSlot" "LSubstitutionMachine$Term;", Cond.fieldLink RX8 25 "SubstitutionMachine" "secondSlot" "LSubstitutionMachine$Term;", Cond.classLink RX8 28 RX4, Cond.instantiable RX4 3, Cond.initialized RX4]
def wsL_law_r2 : List Cond := [Cond.fieldLink RX8 31 "SubstitutionMachine" "outline" "LSubstitutionMachine$Outline;", Cond.classLink RX8 35 RX5, Cond.instantiable RX5 3, Cond.initialized RX5, Cond.fieldLink RX8 38 "SubstitutionMachine" "reducer" "LSubstitutionMachine$Reducer;", Cond.classLink RX8 42 RX2, Cond.instantiable RX2 4, Cond.initialized RX2, Cond.fieldLink RX8 45 "SubstitutionMachine" "machine" "LSubstitutionMachine$Machine;", Cond.classLink RX8 49 RX1, Cond.instantiable RX1 4, Cond.initialized RX1, Cond.fieldLink RX8 52 "SubstitutionMachine" "history" "LSubstitutionMachine$History;", Cond.classLink RX8 56 RX7, Cond.instantiable RX7 2, Cond.initialized RX7, Cond.fieldLink RX8 59 "SubstitutionMachine" "text" "LSubstitutionMachine$TermText;", Cond.classLink RX8 63 RX3, Cond.instantiable RX3 3, Cond.initialized RX3, Cond.fieldLink RX8 66 "SubstitutionMachine" "observations" "LSubstitutionMachine$Observations;", Cond.fieldLink RX8 70 "SubstitutionMachine" "randomSeed" "J", Cond.instanceMethod yX6_init, Cond.code yX6_init cX6_init 1 none]
def wsL_law_r3 : List Cond := [Cond.methodLink RX6 3 objectInit, Cond.arrayClass .int, Cond.fieldLink RX6 9 "SubstitutionMachine$Term" "tokens" "[I", Cond.fieldLink RX6 15 "SubstitutionMachine$Term" "length" "I", Cond.fieldLink RX6 19 "SubstitutionMachine$Term" "tooLarge" "Z", Cond.instanceMethod yX4_init, Cond.code yX4_init cX4_init 1 none, Cond.methodLink RX4 3 objectInit, Cond.fieldLink RX4 9 "SubstitutionMachine$Outline" "ends" "[I", Cond.fieldLink RX4 15 "SubstitutionMachine$Outline" "depths" "[I", Cond.fieldLink RX4 18 "SubstitutionMachine$Outline" "length" "I", Cond.instanceMethod yX5_init, Cond.code yX5_init cX5_init 1 none, Cond.methodLink RX5 3 objectInit, Cond.classLink RX5 9 RX4, Cond.fieldLink RX5 12 "SubstitutionMachine$Reducer" "outline" "LSubstitutionMachine$Outline;", Cond.fieldLink RX5 18 "SubstitutionMachine$Reducer" "insertedOutline" "LSubstitutionMachine$Outline;", Cond.classLink RX5 21 RX6, Cond.fieldLink RX5 24 "SubstitutionMachine$Reducer" "result" "LSubstitutionMachine$Term;", Cond.instanceMethod yX2_init, Cond.code yX2_init cX2_init 1 none, Cond.methodLink RX2 3 objectInit, Cond.classLink RX2 9 RX0, Cond.instantiable RX0 5]
def wsL_law_r4 : List Cond := [Cond.initialized RX0, Cond.fieldLink RX2 12 "SubstitutionMachine$Machine" "present" "LSubstitutionMachine$Extended;", Cond.fieldLink RX2 18 "SubstitutionMachine$Machine" "next" "LSubstitutionMachine$Extended;", Cond.fieldLink RX2 21 "SubstitutionMachine$Machine" "applied" "[I", Cond.fieldLink RX2 25 "SubstitutionMachine$Machine" "peak" "I", Cond.instanceMethod yX0_init, Cond.code yX0_init cX0_init 1 none, Cond.methodLink RX0 3 objectInit, Cond.fieldLink RX0 9 "SubstitutionMachine$Extended" "tokens" "[I", Cond.fieldLink RX0 15 "SubstitutionMachine$Extended" "entries" "[I", Cond.fieldLink RX0 18 "SubstitutionMachine$Extended" "shifts" "[I", Cond.fieldLink RX0 21 "SubstitutionMachine$Extended" "length" "I", Cond.fieldLink RX0 25 "SubstitutionMachine$Extended" "tooLarge" "Z", Cond.instanceMethod yX1_init, Cond.code yX1_init cX1_init 1 none, Cond.methodLink RX1 3 objectInit, Cond.classLink RX1 9 "[[I", Cond.fieldLink RX1 11 "SubstitutionMachine$History" "rows" "[[I", Cond.fieldLink RX1 16 "SubstitutionMachine$History" "lengths" "[I", Cond.fieldLink RX1 20 "SubstitutionMachine$History" "count" "I", Cond.fieldLink RX1 24 "SubstitutionMachine$History" "place" "I", Cond.instanceMethod yX7_init, Cond.code yX7_init cX7_init 1 none, Cond.methodLink RX7 3 objectInit]
def wsL_law_r5 : List Cond := [Cond.fieldLink RX7 9 "SubstitutionMachine$TermText" "codes" "[I", Cond.fieldLink RX7 15 "SubstitutionMachine$TermText" "length" "I", Cond.instanceMethod yX3_init, Cond.code yX3_init cX3_init 1 none, Cond.methodLink RX3 3 objectInit, Cond.fieldLink RX3 9 "SubstitutionMachine$Observations" "limits" "[I", Cond.fieldLink RX3 15 "SubstitutionMachine$Observations" "values" "[I", Cond.fieldLink RX3 18 "SubstitutionMachine$Observations" "count" "I", Cond.methodLink RX8 74 yX6_add, Cond.instanceMethod yX6_add, Cond.selects RX6 yX6_add yX6_add, Cond.code yX6_add cX6_add 2 none, Cond.methodLink RL 12 yX9_init, Cond.instanceMethod yX9_init, Cond.code yX9_init cX9_init 1 none, Cond.methodLink RX9 1 objectInit, Cond.fieldLink RX9 7 "SubstitutionMachineModel" "text" "[I", Cond.fieldLink RX9 13 "SubstitutionMachineModel" "term" "[I", Cond.fieldLink RX9 16 "SubstitutionMachineModel" "work" "[I", Cond.fieldLink RX9 19 "SubstitutionMachineModel" "other" "[I", Cond.fieldLink RX9 22 "SubstitutionMachineModel" "out" "[I", Cond.fieldLink RX9 25 "SubstitutionMachineModel" "history" "[I", Cond.fieldLink RX9 28 "SubstitutionMachineModel" "slots" "[I", Cond.arrayClass .boolean]
def wsL_law_r6 : List Cond := [Cond.fieldLink RX9 31 "SubstitutionMachineModel" "slotUsed" "[Z", Cond.fieldLink RX9 35 "SubstitutionMachineModel" "observedLimit" "[I", Cond.fieldLink RX9 38 "SubstitutionMachineModel" "observedSize" "[I", Cond.fieldLink RX9 41 "SubstitutionMachineModel" "depths" "[I", Cond.fieldLink RX9 44 "SubstitutionMachineModel" "open" "[I", Cond.fieldLink RX9 47 "SubstitutionMachineModel" "binds" "[Z", Cond.fieldLink RX9 50 "SubstitutionMachineModel" "wide" "[I", Cond.fieldLink RX9 53 "SubstitutionMachineModel" "next" "[I", Cond.fieldLink RX9 56 "SubstitutionMachineModel" "applied" "[I", Cond.methodLink RL 13 yX8_append, Cond.instanceMethod yX8_append, Cond.selects RX8 yX8_append yX8_append, Cond.code yX8_append cX8_append 2 (some .int), Cond.methodLink RX8 78 yX7_put, Cond.instanceMethod yX7_put, Cond.selects RX7 yX7_put yX7_put, Cond.code yX7_put cX7_put 2 (some .boolean), Cond.methodLink RX8 82 yX7_length, Cond.instanceMethod yX7_length, Cond.selects RX7 yX7_length yX7_length, Cond.code yX7_length cX7_length 1 (some .int), Cond.methodLink RL 17 yX9_append, Cond.instanceMethod yX9_append, Cond.selects RX9 yX9_append yX9_append]
def wsL_law_r7 : List Cond := [Cond.code yX9_append cX9_append 2 (some .int), Cond.fieldLink RX9 59 "SubstitutionMachineModel" "thrown" "I", Cond.constantLong RX9 112 (255), Cond.fieldLink RX9 118 "SubstitutionMachineModel" "textSize" "I", Cond.methodLink RX9 114 yX9_in, Cond.static yX9_in, Cond.code yX9_in cX9_in 6 (some .boolean), Cond.methodLink RL 18 yX8_clearText, Cond.instanceMethod yX8_clearText, Cond.selects RX8 yX8_clearText yX8_clearText, Cond.code yX8_clearText cX8_clearText 2 (some .int), Cond.methodLink RX8 86 yX7_clear, Cond.instanceMethod yX7_clear, Cond.selects RX7 yX7_clear yX7_clear, Cond.code yX7_clear cX7_clear 1 none, Cond.methodLink RL 22 yX9_clearText, Cond.instanceMethod yX9_clearText, Cond.selects RX9 yX9_clearText yX9_clearText, Cond.code yX9_clearText cX9_clearText 2 (some .int), Cond.methodLink RL 23 yX8_errorPosition, Cond.instanceMethod yX8_errorPosition, Cond.selects RX8 yX8_errorPosition yX8_errorPosition, Cond.code yX8_errorPosition cX8_errorPosition 1 (some .int), Cond.methodLink RX8 89 yX7_firstError]
def wsL_law_r8 : List Cond := [Cond.instanceMethod yX7_firstError, Cond.selects RX7 yX7_firstError yX7_firstError, Cond.code yX7_firstError cX7_firstError 4 (some .int), Cond.methodLink RX7 19 yX7_tokenOf, Cond.static yX7_tokenOf, Cond.code yX7_tokenOf cX7_tokenOf 1 (some .int), Cond.static yX8_parts, Cond.code yX8_parts cX8_parts 1 (some .int), Cond.methodLink RL 26 yX9_errorPosition, Cond.instanceMethod yX9_errorPosition, Cond.selects RX9 yX9_errorPosition yX9_errorPosition, Cond.code yX9_errorPosition cX9_errorPosition 4 (some .int), Cond.methodLink RX9 125 yX9_tokenOf, Cond.static yX9_tokenOf, Cond.code yX9_tokenOf cX9_tokenOf 1 (some .int), Cond.constantLong RX9 121 (48), Cond.constantLong RX9 123 (57), Cond.methodLink RX9 64 yX9_parts, Cond.static yX9_parts, Cond.code yX9_parts cX9_parts 1 (some .int), Cond.constant RX9 63 (1000000), Cond.methodLink RL 27 yX8_load, Cond.instanceMethod yX8_load, Cond.selects RX8 yX8_load yX8_load]
def wsL_law_r9 : List Cond := [Cond.code yX8_load cX8_load 1 (some .int), Cond.methodLink RX8 92 yX7_writeTo, Cond.instanceMethod yX7_writeTo, Cond.selects RX7 yX7_writeTo yX7_writeTo, Cond.code yX7_writeTo cX7_writeTo 3 none, Cond.methodLink RX7 26 yX6_clear, Cond.instanceMethod yX6_clear, Cond.selects RX6 yX6_clear yX6_clear, Cond.code yX6_clear cX6_clear 1 none, Cond.methodLink RX7 31 yX6_add, Cond.methodLink RX8 96 yX1_forgetAll, Cond.instanceMethod yX1_forgetAll, Cond.selects RX1 yX1_forgetAll yX1_forgetAll, Cond.code yX1_forgetAll cX1_forgetAll 1 none, Cond.methodLink RX8 99 yX6_clear, Cond.methodLink RX8 100 yX6_length, Cond.instanceMethod yX6_length, Cond.selects RX6 yX6_length yX6_length, Cond.code yX6_length cX6_length 1 (some .int), Cond.methodLink RL 30 yX9_load, Cond.instanceMethod yX9_load, Cond.selects RX9 yX9_load yX9_load, Cond.code yX9_load cX9_load 2 (some .int), Cond.fieldLink RX9 132 "SubstitutionMachineModel" "remembered" "I"]
def wsL_law_r10 : List Cond := [Cond.methodLink RX9 128 yX9_errorPosition, Cond.methodLink RL 31 yX8_size, Cond.instanceMethod yX8_size, Cond.selects RX8 yX8_size yX8_size, Cond.code yX8_size cX8_size 1 (some .int), Cond.methodLink RL 34 yX9_size, Cond.instanceMethod yX9_size, Cond.selects RX9 yX9_size yX9_size, Cond.code yX9_size cX9_size 1 (some .int), Cond.methodLink RL 35 yX8_tokenAt, Cond.instanceMethod yX8_tokenAt, Cond.selects RX8 yX8_tokenAt yX8_tokenAt, Cond.code yX8_tokenAt cX8_tokenAt 2 (some .int), Cond.methodLink RX8 101 yX6_has, Cond.instanceMethod yX6_has, Cond.selects RX6 yX6_has yX6_has, Cond.code yX6_has cX6_has 2 (some .boolean), Cond.methodLink RX8 104 yX6_token, Cond.instanceMethod yX6_token, Cond.selects RX6 yX6_token yX6_token, Cond.code yX6_token cX6_token 2 (some .int), Cond.methodLink RL 38 yX9_tokenAt, Cond.instanceMethod yX9_tokenAt, Cond.selects RX9 yX9_tokenAt yX9_tokenAt]
def wsL_law_r11 : List Cond := [Cond.code yX9_tokenAt cX9_tokenAt 2 (some .int), Cond.methodLink RL 39 yX8_nameAt, Cond.instanceMethod yX8_nameAt, Cond.selects RX8 yX8_nameAt yX8_nameAt, Cond.code yX8_nameAt cX8_nameAt 4 (some .int), Cond.methodLink RX8 108 yX4_measure, Cond.instanceMethod yX4_measure, Cond.selects RX4 yX4_measure yX4_measure, Cond.code yX4_measure cX4_measure 2 none, Cond.methodLink RX4 27 Lib.Math.min.name, Cond.static Lib.Math.min.name, Cond.initialized "java/lang/Math", Cond.code Lib.Math.min.name Lib.Math.min.code 2 (some .int), Cond.methodLink RX4 22 yX6_length, Cond.methodLink RX4 33 yX4_measureEnds, Cond.instanceMethod yX4_measureEnds, Cond.selects RX4 yX4_measureEnds yX4_measureEnds, Cond.code yX4_measureEnds cX4_measureEnds 4 none, Cond.methodLink RX4 40 yX6_token, Cond.methodLink RX4 44 yX4_endAt, Cond.instanceMethod yX4_endAt, Cond.selects RX4 yX4_endAt yX4_endAt, Cond.code yX4_endAt cX4_endAt 2 (some .int), Cond.methodLink RX4 37 yX4_measureDepths]
def wsL_law_r12 : List Cond := [Cond.instanceMethod yX4_measureDepths, Cond.selects RX4 yX4_measureDepths yX4_measureDepths, Cond.code yX4_measureDepths cX4_measureDepths 4 none, Cond.methodLink RX4 47 yX4_setDepth, Cond.instanceMethod yX4_setDepth, Cond.selects RX4 yX4_setDepth yX4_setDepth, Cond.code yX4_setDepth cX4_setDepth 3 none, Cond.methodLink RX8 111 yX4_depthAt, Cond.instanceMethod yX4_depthAt, Cond.selects RX4 yX4_depthAt yX4_depthAt, Cond.code yX4_depthAt cX4_depthAt 2 (some .int), Cond.methodLink RL 42 yX9_nameAt, Cond.instanceMethod yX9_nameAt, Cond.selects RX9 yX9_nameAt yX9_nameAt, Cond.code yX9_nameAt cX9_nameAt 4 (some .int), Cond.methodLink RX9 86 yX9_layDepths, Cond.instanceMethod yX9_layDepths, Cond.selects RX9 yX9_layDepths yX9_layDepths, Cond.code yX9_layDepths cX9_layDepths 8 none, Cond.methodLink RX9 68 yX9_isVariable, Cond.static yX9_isVariable, Cond.code yX9_isVariable cX9_isVariable 1 (some .boolean), Cond.methodLink RL 43 yX8_redexCount, Cond.instanceMethod yX8_redexCount]
def wsL_law_r13 : List Cond := [Cond.selects RX8 yX8_redexCount yX8_redexCount, Cond.code yX8_redexCount cX8_redexCount 1 (some .int), Cond.methodLink RX8 114 yX5_countRedexes, Cond.static yX5_countRedexes, Cond.code yX5_countRedexes cX5_countRedexes 3 (some .int), Cond.methodLink RX5 32 yX6_length, Cond.methodLink RX5 36 yX5_isRedex, Cond.static yX5_isRedex, Cond.code yX5_isRedex cX5_isRedex 2 (some .boolean), Cond.methodLink RX5 28 yX6_token, Cond.methodLink RL 46 yX9_redexCount, Cond.instanceMethod yX9_redexCount, Cond.selects RX9 yX9_redexCount yX9_redexCount, Cond.code yX9_redexCount cX9_redexCount 1 (some .int), Cond.methodLink RX9 108 yX9_redexes, Cond.static yX9_redexes, Cond.code yX9_redexes cX9_redexes 3 (some .int), Cond.methodLink RX9 72 yX9_isRedex, Cond.static yX9_isRedex, Cond.code yX9_isRedex cX9_isRedex 2 (some .boolean), Cond.methodLink RL 47 yX8_chosenRedex, Cond.instanceMethod yX8_chosenRedex, Cond.selects RX8 yX8_chosenRedex yX8_chosenRedex, Cond.code yX8_chosenRedex cX8_chosenRedex 2 (some .int)]
def wsL_law_r14 : List Cond := [Cond.methodLink RX8 118 yX8_isStrategy, Cond.static yX8_isStrategy, Cond.code yX8_isStrategy cX8_isStrategy 1 (some .boolean), Cond.methodLink RX8 121 yX5_choose, Cond.static yX5_choose, Cond.code yX5_choose cX5_choose 2 (some .int), Cond.methodLink RX5 40 yX5_nextRedex, Cond.static yX5_nextRedex, Cond.code yX5_nextRedex cX5_nextRedex 3 (some .int), Cond.methodLink RX5 44 yX5_leftmostInnermost, Cond.static yX5_leftmostInnermost, Cond.code yX5_leftmostInnermost cX5_leftmostInnermost 4 (some .int), Cond.methodLink RX5 48 yX5_lastRedex, Cond.static yX5_lastRedex, Cond.code yX5_lastRedex cX5_lastRedex 2 (some .int), Cond.methodLink RX5 51 yX5_weakHead, Cond.static yX5_weakHead, Cond.code yX5_weakHead cX5_weakHead 2 (some .int), Cond.methodLink RL 50 yX9_chosenRedex, Cond.instanceMethod yX9_chosenRedex, Cond.selects RX9 yX9_chosenRedex yX9_chosenRedex, Cond.code yX9_chosenRedex cX9_chosenRedex 2 (some .int), Cond.constantLong RX9 135 (3), Cond.methodLink RX9 94 yX9_choose]
def wsL_law_r15 : List Cond := [Cond.static yX9_choose, Cond.code yX9_choose cX9_choose 7 (some .int), Cond.methodLink RX9 80 yX9_isInnermost, Cond.static yX9_isInnermost, Cond.code yX9_isInnermost cX9_isInnermost 4 (some .boolean), Cond.methodLink RX9 76 yX9_end, Cond.static yX9_end, Cond.code yX9_end cX9_end 4 (some .int), Cond.methodLink RL 51 yX8_freeVariables, Cond.instanceMethod yX8_freeVariables, Cond.selects RX8 yX8_freeVariables yX8_freeVariables, Cond.code yX8_freeVariables cX8_freeVariables 4 (some .int), Cond.methodLink RX8 125 yX8_isVariable, Cond.static yX8_isVariable, Cond.code yX8_isVariable cX8_isVariable 1 (some .boolean), Cond.methodLink RL 54 yX9_freeVariables, Cond.instanceMethod yX9_freeVariables, Cond.selects RX9 yX9_freeVariables yX9_freeVariables, Cond.code yX9_freeVariables cX9_freeVariables 3 (some .int), Cond.methodLink RL 55 yX8_step, Cond.instanceMethod yX8_step, Cond.selects RX8 yX8_step yX8_step, Cond.code yX8_step cX8_step 3 (some .int), Cond.methodLink RX8 128 yX6_copyFrom]
def wsL_law_r16 : List Cond := [Cond.instanceMethod yX6_copyFrom, Cond.selects RX6 yX6_copyFrom yX6_copyFrom, Cond.code yX6_copyFrom cX6_copyFrom 2 none, Cond.methodLink RX6 23 arraycopyName, Cond.native arraycopyName, Cond.static arraycopyName, Cond.initialized "java/lang/System", Cond.methodLink RX8 131 yX5_contract, Cond.instanceMethod yX5_contract, Cond.selects RX5 yX5_contract yX5_contract, Cond.code yX5_contract cX5_contract 5 (some .boolean), Cond.methodLink RX5 63 yX4_measure, Cond.methodLink RX5 67 yX4_endAt, Cond.methodLink RX5 70 yX6_clear, Cond.methodLink RX5 73 yX6_addRange, Cond.instanceMethod yX6_addRange, Cond.selects RX6 yX6_addRange yX6_addRange, Cond.code yX6_addRange cX6_addRange 5 none, Cond.methodLink RX5 77 yX5_addContracted, Cond.instanceMethod yX5_addContracted, Cond.selects RX5 yX5_addContracted yX5_addContracted, Cond.code yX5_addContracted cX5_addContracted 9 none, Cond.methodLink RX5 85 yX4_depthAt, Cond.methodLink RX5 88 yX6_isTooLarge]
def wsL_law_r17 : List Cond := [Cond.instanceMethod yX6_isTooLarge, Cond.selects RX6 yX6_isTooLarge yX6_isTooLarge, Cond.code yX6_isTooLarge cX6_isTooLarge 1 (some .boolean), Cond.methodLink RX5 96 yX6_add, Cond.methodLink RX5 100 yX5_addShifted, Cond.instanceMethod yX5_addShifted, Cond.selects RX5 yX5_addShifted yX5_addShifted, Cond.code yX5_addShifted cX5_addShifted 10 none, Cond.methodLink RX5 81 yX5_takeResult, Cond.instanceMethod yX5_takeResult, Cond.selects RX5 yX5_takeResult yX5_takeResult, Cond.code yX5_takeResult cX5_takeResult 2 (some .boolean), Cond.methodLink RX5 104 yX6_copyFrom, Cond.methodLink RX8 135 yX8_actWithCopy, Cond.instanceMethod yX8_actWithCopy, Cond.selects RX8 yX8_actWithCopy yX8_actWithCopy, Cond.code yX8_actWithCopy cX8_actWithCopy 1 (some .int), Cond.methodLink RX8 218 yX1_remember, Cond.instanceMethod yX1_remember, Cond.selects RX1 yX1_remember yX1_remember, Cond.code yX1_remember cX1_remember 4 none, Cond.methodLink RX1 33 Lib.Math.min.name, Cond.methodLink RX1 27 yX6_length, Cond.methodLink RX1 39 yX6_token]
def wsL_law_r18 : List Cond := [Cond.methodLink RL 58 yX9_step, Cond.instanceMethod yX9_step, Cond.selects RX9 yX9_step yX9_step, Cond.code yX9_step cX9_step 3 (some .int), Cond.methodLink RX9 97 yX9_contract, Cond.instanceMethod yX9_contract, Cond.selects RX9 yX9_contract yX9_contract, Cond.code yX9_contract cX9_contract 8 (some .boolean), Cond.methodLink RX9 83 yX9_put, Cond.instanceMethod yX9_put, Cond.selects RX9 yX9_put yX9_put, Cond.code yX9_put cX9_put 2 (some .boolean), Cond.methodLink RX9 90 yX9_putShifted, Cond.instanceMethod yX9_putShifted, Cond.selects RX9 yX9_putShifted yX9_putShifted, Cond.code yX9_putShifted cX9_putShifted 8 (some .boolean), Cond.methodLink RX9 140 yX9_commit, Cond.instanceMethod yX9_commit, Cond.selects RX9 yX9_commit yX9_commit, Cond.code yX9_commit cX9_commit 1 (some .int), Cond.methodLink RX9 137 yX9_remember, Cond.instanceMethod yX9_remember, Cond.selects RX9 yX9_remember yX9_remember, Cond.code yX9_remember cX9_remember 2 none]
def wsL_law_r19 : List Cond := [Cond.methodLink RX9 100 yX9_assign, Cond.static yX9_assign, Cond.code yX9_assign cX9_assign 3 none, Cond.methodLink RL 59 yX8_run, Cond.instanceMethod yX8_run, Cond.selects RX8 yX8_run yX8_run, Cond.code yX8_run cX8_run 4 (some .int), Cond.methodLink RX8 138 yX5_perform, Cond.instanceMethod yX5_perform, Cond.selects RX5 yX5_perform yX5_perform, Cond.code yX5_perform cX5_perform 5 (some .int), Cond.methodLink RX5 57 yX5_choose, Cond.methodLink RX5 60 yX5_contract, Cond.methodLink RL 63 yX9_run, Cond.instanceMethod yX9_run, Cond.selects RX9 yX9_run yX9_run, Cond.code yX9_run cX9_run 3 (some .int), Cond.constantLong RX9 143 (50), Cond.methodLink RX9 104 yX9_runOn, Cond.instanceMethod yX9_runOn, Cond.selects RX9 yX9_runOn yX9_runOn, Cond.code yX9_runOn cX9_runOn 6 (some .int), Cond.methodLink RL 64 yX8_abstractTerm, Cond.instanceMethod yX8_abstractTerm]
def wsL_law_r20 : List Cond := [Cond.selects RX8 yX8_abstractTerm yX8_abstractTerm, Cond.code yX8_abstractTerm cX8_abstractTerm 1 (some .int), Cond.methodLink RX8 142 yX6_wrapInAbstraction, Cond.instanceMethod yX6_wrapInAbstraction, Cond.selects RX6 yX6_wrapInAbstraction yX6_wrapInAbstraction, Cond.code yX6_wrapInAbstraction cX6_wrapInAbstraction 1 (some .boolean), Cond.methodLink RL 67 yX9_abstractTerm, Cond.instanceMethod yX9_abstractTerm, Cond.selects RX9 yX9_abstractTerm yX9_abstractTerm, Cond.code yX9_abstractTerm cX9_abstractTerm 1 (some .int), Cond.methodLink RX9 145 yX9_putBehind, Cond.instanceMethod yX9_putBehind, Cond.selects RX9 yX9_putBehind yX9_putBehind, Cond.code yX9_putBehind cX9_putBehind 5 (some .boolean), Cond.methodLink RL 68 yX8_applyTo, Cond.instanceMethod yX8_applyTo, Cond.selects RX8 yX8_applyTo yX8_applyTo, Cond.code yX8_applyTo cX8_applyTo 3 (some .int), Cond.methodLink RX8 146 yX8_isSlot, Cond.static yX8_isSlot, Cond.code yX8_isSlot cX8_isSlot 1 (some .boolean), Cond.methodLink RX8 149 yX8_slotTerm, Cond.instanceMethod yX8_slotTerm, Cond.selects RX8 yX8_slotTerm yX8_slotTerm]
def wsL_law_r21 : List Cond := [Cond.code yX8_slotTerm cX8_slotTerm 2 (some (.object "SubstitutionMachine$Term")), Cond.methodLink RX8 153 yX6_addRange, Cond.methodLink RX8 157 yX6_isTooLarge, Cond.methodLink RL 71 yX9_applyTo, Cond.instanceMethod yX9_applyTo, Cond.selects RX9 yX9_applyTo yX9_applyTo, Cond.code yX9_applyTo cX9_applyTo 4 (some .int), Cond.methodLink RX9 149 yX9_takeSlot, Cond.instanceMethod yX9_takeSlot, Cond.selects RX9 yX9_takeSlot yX9_takeSlot, Cond.code yX9_takeSlot cX9_takeSlot 4 none, Cond.methodLink RL 72 yX8_substitute, Cond.instanceMethod yX8_substitute, Cond.selects RX8 yX8_substitute yX8_substitute, Cond.code yX8_substitute cX8_substitute 4 (some .int), Cond.methodLink RX8 160 yX5_replaceFree, Cond.instanceMethod yX5_replaceFree, Cond.selects RX5 yX5_replaceFree yX5_replaceFree, Cond.code yX5_replaceFree cX5_replaceFree 7 (some .boolean), Cond.methodLink RL 75 yX9_substitute, Cond.instanceMethod yX9_substitute, Cond.selects RX9 yX9_substitute yX9_substitute, Cond.code yX9_substitute cX9_substitute 6 (some .int), Cond.constantLong RX9 153 (9)]
def wsL_law_r22 : List Cond := [Cond.methodLink RL 76 yX8_undo, Cond.instanceMethod yX8_undo, Cond.selects RX8 yX8_undo yX8_undo, Cond.code yX8_undo cX8_undo 1 (some .int), Cond.methodLink RX8 164 yX1_takeBack, Cond.instanceMethod yX1_takeBack, Cond.selects RX1 yX1_takeBack yX1_takeBack, Cond.code yX1_takeBack cX1_takeBack 4 (some .boolean), Cond.methodLink RX1 43 yX6_clear, Cond.methodLink RX1 46 yX6_add, Cond.methodLink RX8 168 yX1_count, Cond.instanceMethod yX1_count, Cond.selects RX1 yX1_count yX1_count, Cond.code yX1_count cX1_count 1 (some .int), Cond.methodLink RL 79 yX9_undo, Cond.instanceMethod yX9_undo, Cond.selects RX9 yX9_undo yX9_undo, Cond.code yX9_undo cX9_undo 2 (some .int), Cond.methodLink RL 80 yX8_stepsOfRun, Cond.instanceMethod yX8_stepsOfRun, Cond.selects RX8 yX8_stepsOfRun yX8_stepsOfRun, Cond.code yX8_stepsOfRun cX8_stepsOfRun 3 (some .int), Cond.methodLink RX8 171 yX8_isPrediction, Cond.static yX8_isPrediction]
def wsL_law_r23 : List Cond := [Cond.code yX8_isPrediction cX8_isPrediction 2 (some .boolean), Cond.methodLink RX8 175 yX8_performOnCopy, Cond.instanceMethod yX8_performOnCopy, Cond.selects RX8 yX8_performOnCopy yX8_performOnCopy, Cond.code yX8_performOnCopy cX8_performOnCopy 3 (some .int), Cond.methodLink RL 83 yX9_stepsOfRun, Cond.instanceMethod yX9_stepsOfRun, Cond.selects RX9 yX9_stepsOfRun yX9_stepsOfRun, Cond.code yX9_stepsOfRun cX9_stepsOfRun 3 (some .int), Cond.constantLong RX9 155 (200), Cond.methodLink RL 84 yX8_sizeAfterRun, Cond.instanceMethod yX8_sizeAfterRun, Cond.selects RX8 yX8_sizeAfterRun yX8_sizeAfterRun, Cond.code yX8_sizeAfterRun cX8_sizeAfterRun 3 (some .int), Cond.methodLink RL 87 yX9_sizeAfterRun, Cond.instanceMethod yX9_sizeAfterRun, Cond.selects RX9 yX9_sizeAfterRun yX9_sizeAfterRun, Cond.code yX9_sizeAfterRun cX9_sizeAfterRun 3 (some .int), Cond.methodLink RL 88 yX8_normalSize, Cond.instanceMethod yX8_normalSize, Cond.selects RX8 yX8_normalSize yX8_normalSize, Cond.code yX8_normalSize cX8_normalSize 1 (some .int), Cond.methodLink RX8 179 yX8_normaliseInto, Cond.instanceMethod yX8_normaliseInto]
def wsL_law_r24 : List Cond := [Cond.selects RX8 yX8_normaliseInto yX8_normaliseInto, Cond.code yX8_normaliseInto cX8_normaliseInto 3 (some .boolean), Cond.methodLink RX8 221 yX5_nextRedex, Cond.methodLink RL 91 yX9_normalSize, Cond.instanceMethod yX9_normalSize, Cond.selects RX9 yX9_normalSize yX9_normalSize, Cond.code yX9_normalSize cX9_normalSize 1 (some .int), Cond.methodLink RX9 157 yX9_normalize, Cond.instanceMethod yX9_normalize, Cond.selects RX9 yX9_normalize yX9_normalize, Cond.code yX9_normalize cX9_normalize 2 (some .boolean), Cond.methodLink RL 92 yX8_normalTokenAt, Cond.instanceMethod yX8_normalTokenAt, Cond.selects RX8 yX8_normalTokenAt yX8_normalTokenAt, Cond.code yX8_normalTokenAt cX8_normalTokenAt 2 (some .int), Cond.methodLink RL 95 yX9_normalTokenAt, Cond.instanceMethod yX9_normalTokenAt, Cond.selects RX9 yX9_normalTokenAt yX9_normalTokenAt, Cond.code yX9_normalTokenAt cX9_normalTokenAt 2 (some .int), Cond.methodLink RL 96 yX8_isEquivalent, Cond.instanceMethod yX8_isEquivalent, Cond.selects RX8 yX8_isEquivalent yX8_isEquivalent, Cond.code yX8_isEquivalent cX8_isEquivalent 3 (some .int), Cond.methodLink RX8 183 yX6_hasSameTokens]
def wsL_law_r25 : List Cond := [Cond.instanceMethod yX6_hasSameTokens, Cond.selects RX6 yX6_hasSameTokens yX6_hasSameTokens, Cond.code yX6_hasSameTokens cX6_hasSameTokens 3 (some .boolean), Cond.methodLink RL 99 yX9_isEquivalent, Cond.instanceMethod yX9_isEquivalent, Cond.selects RX9 yX9_isEquivalent yX9_isEquivalent, Cond.code yX9_isEquivalent cX9_isEquivalent 4 (some .int), Cond.methodLink RL 100 yX8_machineSteps, Cond.instanceMethod yX8_machineSteps, Cond.selects RX8 yX8_machineSteps yX8_machineSteps, Cond.code yX8_machineSteps cX8_machineSteps 3 (some .int), Cond.methodLink RX8 186 yX2_work, Cond.instanceMethod yX2_work, Cond.selects RX2 yX2_work yX2_work, Cond.code yX2_work cX2_work 5 (some .boolean), Cond.methodLink RX2 53 Lib.Math.max.name, Cond.static Lib.Math.max.name, Cond.code Lib.Math.max.name Lib.Math.max.code 2 (some .int), Cond.methodLink RX2 29 yX2_start, Cond.instanceMethod yX2_start, Cond.selects RX2 yX2_start yX2_start, Cond.code yX2_start cX2_start 3 none, Cond.methodLink RX2 59 yX0_clear, Cond.instanceMethod yX0_clear]
def wsL_law_r26 : List Cond := [Cond.selects RX0 yX0_clear yX0_clear, Cond.code yX0_clear cX0_clear 1 none, Cond.methodLink RX2 62 yX6_length, Cond.methodLink RX2 65 yX6_token, Cond.methodLink RX2 69 yX0_add, Cond.instanceMethod yX0_add, Cond.selects RX0 yX0_add yX0_add, Cond.code yX0_add cX0_add 2 none, Cond.methodLink RX0 29 yX0_put, Cond.instanceMethod yX0_put, Cond.selects RX0 yX0_put yX0_put, Cond.code yX0_put cX0_put 4 none, Cond.methodLink RX2 49 yX0_length, Cond.instanceMethod yX0_length, Cond.selects RX0 yX0_length yX0_length, Cond.code yX0_length cX0_length 1 (some .int), Cond.methodLink RX2 33 yX2_firstPlace, Cond.instanceMethod yX2_firstPlace, Cond.selects RX2 yX2_firstPlace yX2_firstPlace, Cond.code yX2_firstPlace cX2_firstPlace 3 (some .int), Cond.methodLink RX2 37 yX2_ruleAt, Cond.instanceMethod yX2_ruleAt, Cond.selects RX2 yX2_ruleAt yX2_ruleAt, Cond.code yX2_ruleAt cX2_ruleAt 5 (some .int)]
def wsL_law_r27 : List Cond := [Cond.methodLink RX2 73 yX0_token, Cond.instanceMethod yX0_token, Cond.selects RX0 yX0_token yX0_token, Cond.code yX0_token cX0_token 2 (some .int), Cond.methodLink RX2 41 yX2_rewrite, Cond.instanceMethod yX2_rewrite, Cond.selects RX2 yX2_rewrite yX2_rewrite, Cond.code yX2_rewrite cX2_rewrite 4 none, Cond.methodLink RX2 74 yX0_addRange, Cond.instanceMethod yX0_addRange, Cond.selects RX0 yX0_addRange yX0_addRange, Cond.code yX0_addRange cX0_addRange 5 none, Cond.methodLink RX0 33 arraycopyName, Cond.methodLink RX2 78 yX2_writeBeta, Cond.instanceMethod yX2_writeBeta, Cond.selects RX2 yX2_writeBeta yX2_writeBeta, Cond.code yX2_writeBeta cX2_writeBeta 2 none, Cond.methodLink RX2 96 yX0_addClosure, Cond.instanceMethod yX0_addClosure, Cond.selects RX0 yX0_addClosure yX0_addClosure, Cond.code yX0_addClosure cX0_addClosure 3 none, Cond.methodLink RX2 93 yX0_behind, Cond.instanceMethod yX0_behind, Cond.selects RX0 yX0_behind yX0_behind]
def wsL_law_r28 : List Cond := [Cond.code yX0_behind cX0_behind 5 (some .int), Cond.methodLink RX0 39 yX0_token, Cond.methodLink RX0 46 yX0_entriesAt, Cond.instanceMethod yX0_entriesAt, Cond.selects RX0 yX0_entriesAt yX0_entriesAt, Cond.code yX0_entriesAt cX0_entriesAt 2 (some .int), Cond.methodLink RX2 81 yX2_writeApply, Cond.instanceMethod yX2_writeApply, Cond.selects RX2 yX2_writeApply yX2_writeApply, Cond.code yX2_writeApply cX2_writeApply 7 none, Cond.methodLink RX2 99 yX0_entriesAt, Cond.methodLink RX2 102 yX0_shiftAt, Cond.instanceMethod yX0_shiftAt, Cond.selects RX0 yX0_shiftAt yX0_shiftAt, Cond.code yX0_shiftAt cX0_shiftAt 2 (some .int), Cond.methodLink RX2 84 yX2_writeAbstract, Cond.instanceMethod yX2_writeAbstract, Cond.selects RX2 yX2_writeAbstract yX2_writeAbstract, Cond.code yX2_writeAbstract cX2_writeAbstract 6 none, Cond.methodLink RX2 45 yX0_isTooLarge, Cond.instanceMethod yX0_isTooLarge, Cond.selects RX0 yX0_isTooLarge yX0_isTooLarge, Cond.code yX0_isTooLarge cX0_isTooLarge 1 (some .boolean), Cond.methodLink RX2 87 yX2_writeLookup]
def wsL_law_r29 : List Cond := [Cond.instanceMethod yX2_writeLookup, Cond.selects RX2 yX2_writeLookup yX2_writeLookup, Cond.code yX2_writeLookup cX2_writeLookup 5 none, Cond.methodLink RX2 90 yX2_writeMerge, Cond.instanceMethod yX2_writeMerge, Cond.selects RX2 yX2_writeMerge yX2_writeMerge, Cond.code yX2_writeMerge cX2_writeMerge 12 none, Cond.methodLink RX2 105 Lib.Math.min.name, Cond.methodLink RX8 190 yX2_applications, Cond.instanceMethod yX2_applications, Cond.selects RX2 yX2_applications yX2_applications, Cond.code yX2_applications cX2_applications 2 (some .int), Cond.methodLink RL 103 yX9_machineSteps, Cond.instanceMethod yX9_machineSteps, Cond.selects RX9 yX9_machineSteps yX9_machineSteps, Cond.code yX9_machineSteps cX9_machineSteps 3 (some .int), Cond.constantLong RX9 189 (4), Cond.methodLink RX9 191 yX9_machine, Cond.instanceMethod yX9_machine, Cond.selects RX9 yX9_machine yX9_machine, Cond.code yX9_machine cX9_machine 6 (some .boolean), Cond.fieldLink RX9 179 "SubstitutionMachineModel" "peak" "I", Cond.fieldLink RX9 161 "SubstitutionMachineModel" "tooWide" "Z", Cond.methodLink RX9 182 yX9_ruleAt]
def wsL_law_r30 : List Cond := [Cond.instanceMethod yX9_ruleAt, Cond.selects RX9 yX9_ruleAt yX9_ruleAt, Cond.code yX9_ruleAt cX9_ruleAt 4 (some .int), Cond.methodLink RX9 186 yX9_apply, Cond.instanceMethod yX9_apply, Cond.selects RX9 yX9_apply yX9_apply, Cond.code yX9_apply cX9_apply 12 none, Cond.constant RX9 173 (1001000), Cond.constant RX9 174 (1000001), Cond.methodLink RX9 169 yX9_addPart, Cond.instanceMethod yX9_addPart, Cond.selects RX9 yX9_addPart yX9_addPart, Cond.code yX9_addPart cX9_addPart 4 none, Cond.methodLink RX9 165 yX9_add, Cond.instanceMethod yX9_add, Cond.selects RX9 yX9_add yX9_add, Cond.code yX9_add cX9_add 2 none, Cond.methodLink RX9 175 yX9_merge, Cond.instanceMethod yX9_merge, Cond.selects RX9 yX9_merge yX9_merge, Cond.code yX9_merge cX9_merge 13 none, Cond.methodLink RL 104 yX8_machinePeak, Cond.instanceMethod yX8_machinePeak, Cond.selects RX8 yX8_machinePeak yX8_machinePeak]
def wsL_law_r31 : List Cond := [Cond.code yX8_machinePeak cX8_machinePeak 2 (some .int), Cond.methodLink RX8 193 yX2_peak, Cond.instanceMethod yX2_peak, Cond.selects RX2 yX2_peak yX2_peak, Cond.code yX2_peak cX2_peak 1 (some .int), Cond.methodLink RL 107 yX9_machinePeak, Cond.instanceMethod yX9_machinePeak, Cond.selects RX9 yX9_machinePeak yX9_machinePeak, Cond.code yX9_machinePeak cX9_machinePeak 2 (some .int), Cond.methodLink RL 110 yX8_runScript, Cond.instanceMethod yX8_runScript, Cond.selects RX8 yX8_runScript yX8_runScript, Cond.code yX8_runScript cX8_runScript 6 (some .int), Cond.constantLong RX8 200 (1000), Cond.methodLink RX8 196 yX8_withoutLowGroups, Cond.static yX8_withoutLowGroups, Cond.code yX8_withoutLowGroups cX8_withoutLowGroups 6 (some .long), Cond.methodLink RX8 202 yX8_commandSucceeds, Cond.instanceMethod yX8_commandSucceeds, Cond.selects RX8 yX8_commandSucceeds yX8_commandSucceeds, Cond.code yX8_commandSucceeds cX8_commandSucceeds 4 (some .boolean), Cond.methodLink RL 114 yX9_runScript, Cond.instanceMethod yX9_runScript, Cond.selects RX9 yX9_runScript yX9_runScript]
def wsL_law_r32 : List Cond := [Cond.code yX9_runScript cX9_runScript 6 (some .int), Cond.constantLong RX9 195 (1000), Cond.methodLink RX9 197 yX9_thousands, Cond.static yX9_thousands, Cond.code yX9_thousands cX9_thousands 4 (some .long), Cond.methodLink RX9 201 yX9_command, Cond.instanceMethod yX9_command, Cond.selects RX9 yX9_command yX9_command, Cond.code yX9_command cX9_command 8 (some .boolean), Cond.methodLink RL 115 yX8_observe, Cond.instanceMethod yX8_observe, Cond.selects RX8 yX8_observe yX8_observe, Cond.code yX8_observe cX8_observe 3 (some .int), Cond.methodLink RX8 205 yX3_add, Cond.instanceMethod yX3_add, Cond.selects RX3 yX3_add yX3_add, Cond.code yX3_add cX3_add 3 none, Cond.methodLink RX3 22 yX3_dropOldest, Cond.instanceMethod yX3_dropOldest, Cond.selects RX3 yX3_dropOldest yX3_dropOldest, Cond.code yX3_dropOldest cX3_dropOldest 2 none, Cond.methodLink RX8 208 yX3_count, Cond.instanceMethod yX3_count, Cond.selects RX3 yX3_count yX3_count]
def wsL_law_r33 : List Cond := [Cond.code yX3_count cX3_count 1 (some .int), Cond.methodLink RL 118 yX9_observe, Cond.instanceMethod yX9_observe, Cond.selects RX9 yX9_observe yX9_observe, Cond.code yX9_observe cX9_observe 4 (some .int), Cond.fieldLink RX9 205 "SubstitutionMachineModel" "observed" "I", Cond.methodLink RL 119 yX8_forgetAfter, Cond.instanceMethod yX8_forgetAfter, Cond.selects RX8 yX8_forgetAfter yX8_forgetAfter, Cond.code yX8_forgetAfter cX8_forgetAfter 2 (some .int), Cond.methodLink RX8 209 yX3_keepUpTo, Cond.instanceMethod yX3_keepUpTo, Cond.selects RX3 yX3_keepUpTo yX3_keepUpTo, Cond.code yX3_keepUpTo cX3_keepUpTo 4 none, Cond.methodLink RL 122 yX9_forgetAfter, Cond.instanceMethod yX9_forgetAfter, Cond.selects RX9 yX9_forgetAfter yX9_forgetAfter, Cond.code yX9_forgetAfter cX9_forgetAfter 4 (some .int), Cond.methodLink RL 123 yX8_possibleStrategies, Cond.instanceMethod yX8_possibleStrategies, Cond.selects RX8 yX8_possibleStrategies yX8_possibleStrategies, Cond.code yX8_possibleStrategies cX8_possibleStrategies 3 (some .int), Cond.methodLink RX8 212 yX8_observationsHold, Cond.instanceMethod yX8_observationsHold]
def wsL_law_r34 : List Cond := [Cond.selects RX8 yX8_observationsHold yX8_observationsHold, Cond.code yX8_observationsHold cX8_observationsHold 4 (some .boolean), Cond.methodLink RX8 227 Lib.Math.min.name, Cond.methodLink RX8 224 yX3_greatestLimit, Cond.instanceMethod yX3_greatestLimit, Cond.selects RX3 yX3_greatestLimit yX3_greatestLimit, Cond.code yX3_greatestLimit cX3_greatestLimit 3 (some .int), Cond.methodLink RX3 25 Lib.Math.max.name, Cond.methodLink RX8 232 yX3_allow, Cond.instanceMethod yX3_allow, Cond.selects RX3 yX3_allow yX3_allow, Cond.code yX3_allow cX3_allow 4 (some .boolean), Cond.methodLink RL 126 yX9_possibleStrategies, Cond.instanceMethod yX9_possibleStrategies, Cond.selects RX9 yX9_possibleStrategies yX9_possibleStrategies, Cond.code yX9_possibleStrategies cX9_possibleStrategies 5 (some .int), Cond.methodLink RL 127 yX8_setSeed, Cond.instanceMethod yX8_setSeed, Cond.selects RX8 yX8_setSeed yX8_setSeed, Cond.code yX8_setSeed cX8_setSeed 5 (some .long), Cond.methodLink RL 131 yX9_setSeed, Cond.instanceMethod yX9_setSeed, Cond.selects RX9 yX9_setSeed yX9_setSeed, Cond.code yX9_setSeed cX9_setSeed 5 (some .long)]
def wsL_law_r35 : List Cond := [Cond.fieldLink RX9 208 "SubstitutionMachineModel" "seed" "J", Cond.methodLink RL 132 yX8_randomReduction, Cond.instanceMethod yX8_randomReduction, Cond.selects RX8 yX8_randomReduction yX8_randomReduction, Cond.code yX8_randomReduction cX8_randomReduction 4 (some .int), Cond.methodLink RX8 215 yX8_randomStepOnCopy, Cond.instanceMethod yX8_randomStepOnCopy, Cond.selects RX8 yX8_randomStepOnCopy yX8_randomStepOnCopy, Cond.code yX8_randomStepOnCopy cX8_randomStepOnCopy 3 none, Cond.constantLong RX8 235 (6364136223846793005), Cond.constantLong RX8 237 (1442695040888963407), Cond.methodLink RX8 239 yX5_numberedRedex, Cond.static yX5_numberedRedex, Cond.code yX5_numberedRedex cX5_numberedRedex 4 (some .int), Cond.methodLink RL 135 yX9_randomReduction, Cond.instanceMethod yX9_randomReduction, Cond.selects RX9 yX9_randomReduction yX9_randomReduction, Cond.code yX9_randomReduction cX9_randomReduction 6 (some .int), Cond.constantLong RX9 212 (30), Cond.constantLong RX9 214 (6364136223846793005), Cond.constantLong RX9 216 (1442695040888963407), Cond.methodLink RX9 218 yX9_redexNumber, Cond.static yX9_redexNumber, Cond.code yX9_redexNumber cX9_redexNumber 4 (some .int)]
def wsL_law_r36 : List Cond := [Cond.methodLink RL 136 yX8_save, Cond.instanceMethod yX8_save, Cond.selects RX8 yX8_save yX8_save, Cond.code yX8_save cX8_save 2 (some .int), Cond.methodLink RL 139 yX9_save, Cond.instanceMethod yX9_save, Cond.selects RX9 yX9_save yX9_save, Cond.code yX9_save cX9_save 3 (some .int), Cond.methodLink RL 140 yX8_restore, Cond.instanceMethod yX8_restore, Cond.selects RX8 yX8_restore yX8_restore, Cond.code yX8_restore cX8_restore 3 (some .int), Cond.methodLink RL 143 yX9_restore, Cond.instanceMethod yX9_restore, Cond.selects RX9 yX9_restore yX9_restore, Cond.code yX9_restore cX9_restore 2 (some .int)]
def wsL_law : List Cond := (wsL_law_r1 ++ (wsL_law_r2 ++ (wsL_law_r3 ++ (wsL_law_r4 ++ (wsL_law_r5 ++ (wsL_law_r6 ++ (wsL_law_r7 ++ (wsL_law_r8 ++ (wsL_law_r9 ++ (wsL_law_r10 ++ (wsL_law_r11 ++ (wsL_law_r12 ++ (wsL_law_r13 ++ (wsL_law_r14 ++ (wsL_law_r15 ++ (wsL_law_r16 ++ (wsL_law_r17 ++ (wsL_law_r18 ++ (wsL_law_r19 ++ (wsL_law_r20 ++ (wsL_law_r21 ++ (wsL_law_r22 ++ (wsL_law_r23 ++ (wsL_law_r24 ++ (wsL_law_r25 ++ (wsL_law_r26 ++ (wsL_law_r27 ++ (wsL_law_r28 ++ (wsL_law_r29 ++ (wsL_law_r30 ++ (wsL_law_r31 ++ (wsL_law_r32 ++ (wsL_law_r33 ++ (wsL_law_r34 ++ (wsL_law_r35 ++ wsL_law_r36))))))))))))))))))))))))))))))))))) ++ wsX80 ++ wsX90 ++ wsX60 ++ wsX40 ++ wsX50 ++ wsX20 ++ wsX10 ++ wsX70 ++ wsX30 ++ wsX00 ++ ([] : List Cond)
theorem inlX0 : ∀ w ∈ wsX00, w ∈ wsL_law := fun _ h => List.mem_append_left _ (List.mem_append_right _ h)
theorem inlX1 : ∀ w ∈ wsX10, w ∈ wsL_law := fun _ h => List.mem_append_left _ (List.mem_append_left _ (List.mem_append_left _ (List.mem_append_left _ (List.mem_append_right _ h))))
theorem inlX2 : ∀ w ∈ wsX20, w ∈ wsL_law := fun _ h => List.mem_append_left _ (List.mem_append_left _ (List.mem_append_left _ (List.mem_append_left _ (List.mem_append_left _ (List.mem_append_right _ h)))))
theorem inlX3 : ∀ w ∈ wsX30, w ∈ wsL_law := fun _ h => List.mem_append_left _ (List.mem_append_left _ (List.mem_append_right _ h))
theorem inlX4 : ∀ w ∈ wsX40, w ∈ wsL_law := fun _ h => List.mem_append_left _ (List.mem_append_left _ (List.mem_append_left _ (List.mem_append_left _ (List.mem_append_left _ (List.mem_append_left _ (List.mem_append_left _ (List.mem_append_right _ h)))))))
theorem inlX5 : ∀ w ∈ wsX50, w ∈ wsL_law := fun _ h => List.mem_append_left _ (List.mem_append_left _ (List.mem_append_left _ (List.mem_append_left _ (List.mem_append_left _ (List.mem_append_left _ (List.mem_append_right _ h))))))
theorem inlX6 : ∀ w ∈ wsX60, w ∈ wsL_law := fun _ h => List.mem_append_left _ (List.mem_append_left _ (List.mem_append_left _ (List.mem_append_left _ (List.mem_append_left _ (List.mem_append_left _ (List.mem_append_left _ (List.mem_append_left _ (List.mem_append_right _ h))))))))
theorem inlX7 : ∀ w ∈ wsX70, w ∈ wsL_law := fun _ h => List.mem_append_left _ (List.mem_append_left _ (List.mem_append_left _ (List.mem_append_right _ h)))
theorem inlX8 : ∀ w ∈ wsX80, w ∈ wsL_law := fun _ h => List.mem_append_left _ (List.mem_append_left _ (List.mem_append_left _ (List.mem_append_left _ (List.mem_append_left _ (List.mem_append_left _ (List.mem_append_left _ (List.mem_append_left _ (List.mem_append_left _ (List.mem_append_left _ (List.mem_append_right _ h))))))))))
theorem inlX9 : ∀ w ∈ wsX90, w ∈ wsL_law := fun _ h => List.mem_append_left _ (List.mem_append_left _ (List.mem_append_left _ (List.mem_append_left _ (List.mem_append_left _ (List.mem_append_left _ (List.mem_append_left _ (List.mem_append_left _ (List.mem_append_left _ (List.mem_append_right _ h)))))))))
abbrev vwCl : List vw_C := [(RX0, TX0, 5), (RX1, TX1, 4), (RX2, TX2, 4), (RX3, TX3, 3), (RX4, TX4, 3), (RX5, TX5, 3), (RX6, TX6, 3), (RX7, TX7, 2), (RX8, TX8, 12), (RX9, TX9, 23)]
