/-! CONSTRUCTORS: a layer over lists of cells; the first cell is the object that is made -/
abbrev zA (cI : ClassId) (n : Nat) : va_E := .inl (cI, n, .inl (fun _ => (0 : Int32)))
abbrev tyK (T : ClassId × ClassId × ClassId) : List (ClassId × FieldType) := [(T.1, .int), (T.2.1, .boolean), (T.2.2, .array .int)]
def KX (l : Launch) (D : va_G) (T : ClassId × ClassId × ClassId) (A : Nat → Prop) (K : Cx) (cc : ByteArray) (own : String) (rm : Room) : Prop :=
  match K with
  | (p, l', _, R, s, m, args, _, meth, cd) => p.tables.exec = Jvm.exec ∧ cd.code = cc ∧ cd.maxLocals = 1 ∧ s.vm.findClass own = some m.cls ∧ (∀ w ∈ wsL_law, w.before args s = true) ∧ va_K D vwCl (tyK T) s ∧ meth.sig.returnType = none ∧ meth.locks = false ∧ meth.name = "<init>" ∧ R = rm ∧ l' = l ∧ nsK s ∧ va_AOA .int s ∧ (∀ q, s.heap.size ≤ q → A q)
def KW (D : va_G) (A : Nat → Prop) (K : Cx) (Q : State → Prop) (cells slots pc : Nat) (h0 : Nat) (st : List Value) (ws : va_W) : Prop :=
  match K with
  | (p, l, e, R, s, m, args, below, meth, cd) => ∀ (H : Heap) (locs : List Loc) (ls : Array Slot), va_P D vwCl ws H → va_D A ws → va_S A s.heap H locs → lv_has ls 1 [(0, .ref h0)] → W p l e R s m args below meth cd H locs cells slots Q (F0 m pc ls st)
theorem AOA_warm {s U : State} (hW : s.WarmedH U.vm) (h : va_AOA .int s) : va_AOA .int U := by
  have h2 : (Cond.arrayOver (.array .int)).before #[] (s.setVm U.vm) = true := by rw [Cond.arrayOver_setVmC hW.alike]; exact h
  exact h2
theorem AOA_same {s U : State} (hv : s.vm = U.vm) (h : va_AOA .int s) : va_AOA .int U := by
  have h2 : (Cond.arrayOver (.array .int)).before #[] (s.setVm U.vm) = true := by rw [← hv]; exact h
  exact h2
abbrev kPre (D : va_G) (T : ClassId × ClassId × ClassId) (h0 ci : Nat) (fs : List Value) (sz : Nat) : Array Value → State → Prop := va_Pc [.ref h0] (fun U => U.heap.size = sz ∧ va_P D vwCl [(h0, .inr (ci, fs))] U.heap ∧ va_K D vwCl (tyK T) U ∧ nsK U ∧ va_AOA .int U)
def KMet (l : Launch) (D : va_G) (T : ClassId × ClassId × ClassId) (y : MethodName) (cy : ByteArray) (rm : Room) (ci : Nat) (fs : List Value) (post : Nat → va_W → Prop) (mc ms : Nat) : Prop :=
  ∀ h0 sz : Nat, Met l y (.code y cy 1 none :: wsL_law) rm (kPre D T h0 ci fs sz) (va_Qv (post h0) (fun w1 t => va_P D vwCl w1 t.heap ∧ va_D (va_A [(h0, .inr (ci, fs))] sz) w1) (va_A [(h0, .inr (ci, fs))] sz)) mc ms (va_A [(h0, .inr (ci, fs))] sz)
theorem q_oi1 : Cond.instanceMethod objectInit ∈ wsL_law := List.mem_of_getElem? (i := 11) (by decide +kernel)
theorem q_oi2 : Cond.code objectInit ⟨#[0xb1]⟩ 1 none ∈ wsL_law := List.mem_of_getElem? (i := 12) (by decide +kernel)
theorem q_aI : Cond.arrayClass .int ∈ wsL_law := List.mem_of_getElem? (i := 49) (by decide +kernel)
theorem q_aZ : Cond.arrayClass .boolean ∈ wsL_law := List.mem_of_getElem? (i := 119) (by decide +kernel)
theorem one_D {A : Nat → Prop} {x : Nat × va_E} (h : A x.1) : va_D A [x] := ⟨fun i j p q hi hj _ => by
    have h1 := (List.getElem?_eq_some_iff.mp hi).1
    have h2 := (List.getElem?_eq_some_iff.mp hj).1
    simp only [List.length_cons, List.length_nil] at h1 h2
    omega, fun k q hk => by
    have h1 := (List.getElem?_eq_some_iff.mp hk).1
    simp only [List.length_cons, List.length_nil] at h1
    rw [show k = 0 by omega] at hk
    cases hk
    exact h⟩
theorem k_blind {D : va_G} {T : ClassId × ClassId × ClassId} {h0 ci : Nat} {fs : List Value} {sz : Nat} : FrameBlind (kPre D T h0 ci fs sz) := by
  intro a U g mk h
  obtain ⟨h0, h1, h2, h3, h4, h5⟩ := h
  exact ⟨h0, h1, h2, va_K.moved (u := U) (U := U.calling g mk a) (Vm.Alike.refl U.vm) h3, nsK.same rfl h4, AOA_same rfl h5⟩
theorem KMet.of {l : Launch} {D : va_G} {T : ClassId × ClassId × ClassId} {y : MethodName} {cy : ByteArray} {rm : Room} {ci : Nat} {fs : List Value} {post : Nat → va_W → Prop} {mc ms : Nat} (hy : plainName y.cls = true) (hyn : y.name = "<init>")
    (body : ∀ (K : Cx) (h0 : Nat) (A : Nat → Prop) (Q : State → Prop), KX l D T A K cy y.cls rm → (∀ (pc : Nat) (ws : va_W), decode cy pc = .ok (.return_, 1) → post h0 ws → KW D A K Q mc ms pc h0 [] ws) → KW D A K Q 0 0 0 h0 [] [(h0, .inr (ci, fs))]) : KMet l D T y cy rm ci fs post mc ms := by
  intro h0 sz
  refine Met.ofW (cc := cy) (maxL := 1) (ret := none) hy rfl ?_
  intro p e s m args1 below meth cd s₁ B hml hv
  obtain ⟨rfl, hsz, hP, hK, hns, hao⟩ := hv
  have hts := atoms_spec (ws := Cond.code y cy 1 none :: wsL_law) B.pre
  have hin : meth.name = "<init>" := by rw [(name_of_methodNamed B.named B.method).1]; exact hyn
  subst hsz
  have X : KX l D T (va_A [(h0, .inr (ci, fs))] s.heap.size) (p, l, e, rm, s, m, ([.ref h0] : List Value).toArray, below, meth, cd) cy y.cls rm := ⟨B.exec, B.bytes, hml, findClass_of_methodNamed B.named, fun w hw => hts w (List.mem_cons_of_mem _ hw), hK, B.returns, B.notSynchronized, hin, rfl, rfl, hns, hao, fun q hq => Or.inr hq⟩
  have hb := body _ h0 _ (MQ below (va_Qv (post h0) (fun w1 t => va_P D vwCl w1 t.heap ∧ va_D (va_A [(h0, .inr (ci, fs))] s.heap.size) w1) (va_A [(h0, .inr (ci, fs))] s.heap.size)) ([.ref h0] : List Value).toArray s mc ms (va_A [(h0, .inr (ci, fs))] s.heap.size)) X (fun pc ws d hp => by
    intro H locs ls hP hD hS hl
    exact W.vret B.exec B.bytes B.returns (fun t ht hW => ⟨⟨ws, rfl, hp, by rw [ht]; exact hP, hD⟩, hS.F ht⟩) hS.2.2 d B.notSynchronized)
  have hl := lv_entry ([.ref h0]) (n := 1) (Nat.le_of_ble_eq_true rfl)
  rw [lg_entry_eq]
  exact hb s.heap [] _ hP (one_D (Or.inl ⟨0, _, rfl⟩)) va_S.rf hl
/-- behind the making of an object: the other cells, and what the constructor left -/
theorem va_joinE {A0 : Nat → Prop} {D : va_G} {cl : List vw_C} {ws w1 : va_W} {x : Nat × va_E} {H H1 : Heap} (hP : va_P D cl (ws ++ [x]) H) (hD : va_D A0 (ws ++ [x])) (hk : ∀ q : Nat, q < H.size → ¬ va_A [x] H.size q → H1[q]? = H[q]?) (hF : ∀ q, va_A [x] H.size q → A0 q) (hP1 : va_P D cl w1 H1) (hD1 : va_D (va_A [x] H.size) w1) : va_P D cl (ws ++ w1) H1 ∧ va_D A0 (ws ++ w1) := by
  have hw : ∀ (k : Nat) (q : Nat × va_E), ws[k]? = some q → (ws ++ [x])[k]? = some q := fun k q h => by
    rw [List.getElem?_append_left (List.getElem?_eq_some_iff.mp h).1]; exact h
  have hx : (ws ++ [x])[ws.length]? = some x := by rw [List.getElem?_append_right (Nat.le_refl _), Nat.sub_self]; rfl
  have hno : ∀ (k : Nat) (q : Nat × va_E), ws[k]? = some q → q.1 < H.size ∧ ¬ va_A [x] H.size q.1 := fun k q h => by
    have h1 := (hP k q (hw k q h)).lt
    refine ⟨h1, fun z => ?_⟩
    rcases z with ⟨j, e, z⟩ | z
    · have hj := (List.getElem?_eq_some_iff.mp z).1
      simp only [List.length_cons, List.length_nil] at hj
      rw [show j = 0 by omega] at z
      have ex : x = (q.1, e) := Option.some.inj z
      have := hD.1 k ws.length q x (hw k q h) hx (by rw [ex])
      have := (List.getElem?_eq_some_iff.mp h).1
      omega
    · omega
  refine ⟨va_P.app (fun k q h => (hP k q (hw k q h)).kept (hk _ (hno k q h).1 (hno k q h).2)) hP1, ?_, ?_⟩
  · intro i j p q hi hj e
    by_cases li : i < ws.length
    · rw [List.getElem?_append_left li] at hi
      by_cases lj : j < ws.length
      · rw [List.getElem?_append_left lj] at hj
        exact hD.1 i j p q (hw i p hi) (hw j q hj) e
      · rw [List.getElem?_append_right (by omega)] at hj
        exact absurd (e ▸ hD1.2 _ q hj) (hno i p hi).2
    · rw [List.getElem?_append_right (by omega)] at hi
      by_cases lj : j < ws.length
      · rw [List.getElem?_append_left lj] at hj
        exact absurd (e ▸ hD1.2 _ p hi) (hno j q hj).2
      · rw [List.getElem?_append_right (by omega)] at hj
        have := hD1.1 _ _ p q hi hj e
        omega
  · intro k q hk2
    by_cases lk : k < ws.length
    · rw [List.getElem?_append_left lk] at hk2
      exact hD.2 k q (hw k q hk2)
    · rw [List.getElem?_append_right (by omega)] at hk2
      exact hF _ (hD1.2 _ q hk2)
def FF (own : String) (idx ci k : Nat) (ty : FieldType) : Prop := ∃ (C : String) (T : u_T) (N : Nat) (ty0 : Nat → FieldType), vwCl[ci]? = some (C, T, N) ∧ k < N ∧ (∀ w ∈ u_ws C T N, w ∈ wsL_law) ∧ Cond.fieldLink own idx (T k).1 (T k).2.1 (T k).2.2.1 ∈ wsL_law ∧ (∀ k, k < N → parseFieldDescriptor (T k).2.2.1 = some (ty0 k)) ∧ (∀ a, a < N → ∀ b, b < N → a ≠ b → (T a).2.1 ≠ (T b).2.1) ∧ (T k).2.2.2 = true ∧ ty0 k = ty ∧ (T k).1 = own
def NW (own : String) (idx ci N : Nat) (fs : List Value) : Prop := ∃ (C : String) (T : u_T) (ty : Nat → FieldType), vwCl[ci]? = some (C, T, N) ∧ (∀ w ∈ u_ws C T N, w ∈ wsL_law) ∧ (∀ k, k < N → parseFieldDescriptor (T k).2.2.1 = some (ty k)) ∧ Cond.classLink own idx C ∈ wsL_law ∧ Cond.instantiable C N ∈ wsL_law ∧ Cond.initialized C ∈ wsL_law ∧ (∀ j, j < N → defaultValue (ty j) = vp_V fs j)
def MI (y : MethodName) (cc : ByteArray) : Prop := Cond.code y cc 1 none ∈ wsL_law ∧ Cond.initialized y.cls ∈ wsL_law ∧ Cond.instanceMethod y ∈ wsL_law ∧ y.cls ≠ "java/lang/invoke/MethodHandle" ∧ y.cls ≠ "java/lang/invoke/VarHandle" ∧ (parseMethodDescriptor y.desc).map (fun d => d.parameters.length) = some 0 ∧ y.name = "<init>"
section KL
variable {l : Launch} {D : va_G} {T : ClassId × ClassId × ClassId} {A : Nat → Prop} {K : Cx} {cc : ByteArray} {own : String} {rm : Room} {Q : State → Prop} {cells slots pc q h0 : Nat} {st : List Value} {ws r : va_W} {x0 : Nat × va_E}
theorem K_aload (X : KX l D T A K cc own rm) (d : decode cc pc = .ok (.aload_n 0, 1)) (hq : pc + 1 = q) (kk : KW D A K Q cells slots q h0 (.ref h0 :: st) ws) : KW D A K Q cells slots pc h0 st ws := by
  subst hq
  obtain ⟨p, l1, e, R, s, m, args, below, meth, cd⟩ := K
  obtain ⟨hx, hb, hml, hown, hts, hK, hr, hlocks, hin, hR, hl1, hns, hao, hA⟩ := X
  intro H locs ls hP hD hS hl
  exact lv_aload_n hx hb d rfl (lv_at hl 0 rfl) (kk H locs ls hP hD hS hl)
theorem K_iconst {n : Int} (X : KX l D T A K cc own rm) (d : decode cc pc = .ok (.iconst n, 1)) (hq : pc + 1 = q) (kk : KW D A K Q cells slots q h0 (.int (zI n) :: st) ws) : KW D A K Q cells slots pc h0 st ws := by
  subst hq
  obtain ⟨p, l1, e, R, s, m, args, below, meth, cd⟩ := K
  obtain ⟨hx, hb, hml, hown, hts, hK, hr, hlocks, hin, hR, hl1, hns, hao, hA⟩ := X
  intro H locs ls hP hD hS hl
  exact lv_iconst hx hb d rfl (kk H locs ls hP hD hS hl)
theorem K_bipush {n : Int} (X : KX l D T A K cc own rm) (d : decode cc pc = .ok (.bipush n, 2)) (hv : (Int8.ofInt n).toInt32 = zI n) (hq : pc + 2 = q) (kk : KW D A K Q cells slots q h0 (.int (zI n) :: st) ws) : KW D A K Q cells slots pc h0 st ws := by
  subst hq
  obtain ⟨p, l1, e, R, s, m, args, below, meth, cd⟩ := K
  obtain ⟨hx, hb, hml, hown, hts, hK, hr, hlocks, hin, hR, hl1, hns, hao, hA⟩ := X
  intro H locs ls hP hD hS hl
  exact lv_bipush hx hb d hv (kk H locs ls hP hD hS hl)
theorem K_sipush {n : Int} (X : KX l D T A K cc own rm) (d : decode cc pc = .ok (.sipush n, 3)) (hv : (Int16.ofInt n).toInt32 = zI n) (hq : pc + 3 = q) (kk : KW D A K Q cells slots q h0 (.int (zI n) :: st) ws) : KW D A K Q cells slots pc h0 st ws := by
  subst hq
  obtain ⟨p, l1, e, R, s, m, args, below, meth, cd⟩ := K
  obtain ⟨hx, hb, hml, hown, hts, hK, hr, hlocks, hin, hR, hl1, hns, hao, hA⟩ := X
  intro H locs ls hP hD hS hl
  exact lv_sipush hx hb d hv (kk H locs ls hP hD hS hl)
theorem K_lconst {n : Fin 2} {v : Int64} (X : KX l D T A K cc own rm) (d : decode cc pc = .ok (.lconst n, 1)) (hv : Int64.ofNat (n : Nat) = v) (hq : pc + 1 = q) (kk : KW D A K Q cells slots q h0 (.long v :: st) ws) : KW D A K Q cells slots pc h0 st ws := by
  subst hq
  obtain ⟨p, l1, e, R, s, m, args, below, meth, cd⟩ := K
  obtain ⟨hx, hb, hml, hown, hts, hK, hr, hlocks, hin, hR, hl1, hns, hao, hA⟩ := X
  intro H locs ls hP hD hS hl
  exact lv_lconst hx hb d hv (kk H locs ls hP hD hS hl)
theorem K_obj {idx : Nat} (X : KX l D T A K cc own rm) (d : decode cc pc = .ok (.invokespecial idx, 3)) (lk : Cond.methodLink own idx objectInit ∈ wsL_law) (hf : 1 ≤ rm.frames) (hlo : 20 ≤ rm.locals) (hq : pc + 3 = q) (kk : KW D A K Q cells slots q h0 [] ws) : KW D A K Q cells slots pc h0 [.ref h0] ws := by
  subst hq
  obtain ⟨p, l1, e, R, s, m, args, below, meth, cd⟩ := K
  obtain ⟨hx, hb, hml, hown, hts, hK, hr, hlocks, hin, hR, hl1, hns, hao, hA⟩ := X
  intro H locs ls hP hD hS hl
  refine W.objInit hx hb hown (hts _ lk) (hts _ q_oi1) (hts _ q_oi2) rfl (by rw [hml]; exact hl.1) rfl d (by rw [hR]; exact hf) (by rw [hR]; exact Nat.le_trans (Nat.add_le_add_right (lv_room (Nat.le_of_ble_eq_true rfl)) 12) hlo) ?_
  exact kk H locs ls hP hD hS hl
theorem K_newI {n : Int} {N : Nat} (X : KX l D T A K cc own rm) (d : decode cc pc = .ok (.newarray .int, 2)) (h1 : ¬ zI n < 0) (h2 : (zI n).toNatClampNeg = N) (h3 : N * componentBytes .int ≤ 536870912) (hc : cells + 1 ≤ rm.cells) (hsl : slots + N ≤ rm.slots) (hq : pc + 2 = q)
    (kk : ∀ a : Nat, KW D A K Q (cells + 1) (slots + N) q h0 (.ref a :: st) (x0 :: (r ++ [(a, zA T.1 N)]))) : KW D A K Q cells slots pc h0 (.int (zI n) :: st) (x0 :: r) := by
  subst hq
  obtain ⟨p, l1, e, R, s, m, args, below, meth, cd⟩ := K
  obtain ⟨hx, hb, hml, hown, hts, hK, hr, hlocks, hin, hR, hl1, hns, hao, hA⟩ := X
  intro H locs ls hP hD hS hl
  subst hR
  refine va_newa (atype := .int) hx hb (hts _ q_aI) rfl hK hP hD hS hA (a0 := (N, .inl (fun _ => (0 : Int32)))) (fun cA => rfl) h1 h2 h3 hc hsl d (fun a cA H1 hK1 hP1 hD1 hS1 => ?_)
  have e1 : cA = T.1 := Option.some.inj ((hK1.2 3 _ rfl).2.symm.trans (hK.2 0 _ rfl).2)
  subst e1
  exact kk a H1 locs ls hP1 hD1 hS1 hl
theorem K_newZ {n : Int} {N : Nat} (X : KX l D T A K cc own rm) (d : decode cc pc = .ok (.newarray .boolean, 2)) (h1 : ¬ zI n < 0) (h2 : (zI n).toNatClampNeg = N) (h3 : N * componentBytes .boolean ≤ 536870912) (hc : cells + 1 ≤ rm.cells) (hsl : slots + N ≤ rm.slots) (hq : pc + 2 = q)
    (kk : ∀ a : Nat, KW D A K Q (cells + 1) (slots + N) q h0 (.ref a :: st) (x0 :: (r ++ [(a, zA T.2.1 N)]))) : KW D A K Q cells slots pc h0 (.int (zI n) :: st) (x0 :: r) := by
  subst hq
  obtain ⟨p, l1, e, R, s, m, args, below, meth, cd⟩ := K
  obtain ⟨hx, hb, hml, hown, hts, hK, hr, hlocks, hin, hR, hl1, hns, hao, hA⟩ := X
  intro H locs ls hP hD hS hl
  subst hR
  refine va_newa (atype := .boolean) hx hb (hts _ q_aZ) rfl hK hP hD hS hA (a0 := (N, .inl (fun _ => (0 : Int32)))) (fun cA => rfl) h1 h2 h3 hc hsl d (fun a cA H1 hK1 hP1 hD1 hS1 => ?_)
  have e1 : cA = T.2.1 := Option.some.inj ((hK1.2 3 _ rfl).2.symm.trans (hK.2 1 _ rfl).2)
  subst e1
  exact kk a H1 locs ls hP1 hD1 hS1 hl
theorem K_putF {idx ci k : Nat} {fs : List Value} {v : Value} {ty : FieldType} (X : KX l D T A K cc own rm) (f : FF own idx ci k ty) (d : decode cc pc = .ok (.putfield idx, 3)) (hl0 : k < fs.length) (hn : narrow ty v = v) (hf : fits ty v = true) (hq : pc + 3 = q)
    (kk : KW D A K Q cells slots q h0 st ((h0, .inr (ci, fs.set k v)) :: r)) : KW D A K Q cells slots pc h0 (v :: .ref h0 :: st) ((h0, .inr (ci, fs)) :: r) := by
  subst hq
  obtain ⟨p, l1, e, R, s, m, args, below, meth, cd⟩ := K
  obtain ⟨hx, hb, hml, hown, hts, hK, hr, hlocks, hin, hR, hl1, hns, hao, hA⟩ := X
  intro H locs ls hP hD hS hl
  obtain ⟨C, T1, N, ty0, f1, f2, f3, f4, f5, f6, f7, f8, f9⟩ := f
  exact va_putF (q0 := 0) (ty := ty) hx hb hts f3 ty0 f5 f6 hown hK hP hD hS rfl f1 k f2 (hts _ f4) (fun _ h9 => h9) f7 hin f9 (by rw [← f8]; exact f5 k f2) hn hf hl0 d (fun H1 locs1 hP1 hD1 hS1 => kk H1 locs1 ls hP1 hD1 hS1 hl)
theorem K_put {idx ci k : Nat} {fs : List Value} {v : Value} {ty : FieldType} (X : KX l D T A K cc own rm) (f : FP own idx ci k ty) (d : decode cc pc = .ok (.putfield idx, 3)) (hl0 : k < fs.length) (hn : narrow ty v = v) (hf : fits ty v = true) (hq : pc + 3 = q)
    (kk : KW D A K Q cells slots q h0 st ((h0, .inr (ci, fs.set k v)) :: r)) : KW D A K Q cells slots pc h0 (v :: .ref h0 :: st) ((h0, .inr (ci, fs)) :: r) := by
  subst hq
  obtain ⟨p, l1, e, R, s, m, args, below, meth, cd⟩ := K
  obtain ⟨hx, hb, hml, hown, hts, hK, hr, hlocks, hin, hR, hl1, hns, hao, hA⟩ := X
  intro H locs ls hP hD hS hl
  obtain ⟨C, T1, N, ty0, f1, f2, f3, f4, f5, f6, f7, f8⟩ := f
  exact va_put (q0 := 0) (ty := ty) hx hb hts f3 ty0 f5 f6 hown hK hP hD hS rfl f1 k f2 (hts _ f4) (fun _ h9 => h9) f7 (by rw [← f8]; exact f5 k f2) hn hf hl0 d (fun H1 locs1 hP1 hD1 hS1 => kk H1 locs1 ls hP1 hD1 hS1 hl)
theorem K_get {idx ci k : Nat} {fs : List Value} {v : Value} (X : KX l D T A K cc own rm) (f : FL own idx ci k) (d : decode cc pc = .ok (.getfield idx, 3)) (hv : fs[k]? = some v) (hq : pc + 3 = q)
    (kk : KW D A K Q cells slots q h0 (v :: st) ((h0, .inr (ci, fs)) :: r)) : KW D A K Q cells slots pc h0 (.ref h0 :: st) ((h0, .inr (ci, fs)) :: r) := by
  subst hq
  obtain ⟨p, l1, e, R, s, m, args, below, meth, cd⟩ := K
  obtain ⟨hx, hb, hml, hown, hts, hK, hr, hlocks, hin, hR, hl1, hns, hao, hA⟩ := X
  intro H locs ls hP hD hS hl
  obtain ⟨C, T1, N, ty0, f1, f2, f3, f4, f5, f6⟩ := f
  exact va_get (q0 := 0) hx hb hts f3 hown hK hP rfl f1 k f2 (hts _ f4) (fun _ h9 => h9) hv d (kk H locs ls hP hD hS hl)
theorem K_iast {a n j : Nat} {F : Nat → Int32} {i v : Int} (q0 : Nat) (X : KX l D T A K cc own rm) (d : decode cc pc = .ok (.iastore, 1)) (he : ws[q0]? = some (a, .inl (T.1, n, .inl F))) (hin : vp_in (zI i) n) (hj : (zI i).toNatClampNeg = j) (hq : pc + 1 = q)
    (kk : KW D A K Q cells slots q h0 st (ws.set q0 (a, .inl (T.1, n, .inl (upd F j (zI v)))))) : KW D A K Q cells slots pc h0 (.int (zI v) :: .int (zI i) :: .ref a :: st) ws := by
  subst hq
  subst hj
  obtain ⟨p, l1, e, R, s, m, args, below, meth, cd⟩ := K
  obtain ⟨hx, hb, hml, hown, hts, hK, hr, hlocks, hin2, hR, hl1, hns, hao, hA⟩ := X
  intro H locs ls hP hD hS hl
  exact va_iast (q0 := q0) (t0 := 0) hx hb hK hP hD hS he rfl hin d (fun H1 locs1 hP1 hD1 hS1 => kk H1 locs1 ls hP1 hD1 hS1 hl)
theorem K_make {idx idx2 ci N mc ms : Nat} {fs : List Value} {y : MethodName} {cy : ByteArray} {rm2 : Room} {post : Nat → va_W → Prop} (X : KX l D T A K cc own rm) (nw : NW own idx ci N fs) (hM : KMet l D T y cy rm2 ci fs post mc ms) (mi : MI y cy) (lk : (own, idx2, y) ∈ nsts)
    (d1 : decode cc pc = .ok (.new idx, 3)) (d2 : decode cc (pc + 3) = .ok (.dup, 1)) (d3 : decode cc (pc + 4) = .ok (.invokespecial idx2, 3)) (hR2 : rm2.frames + 1 ≤ rm.frames ∧ 8 + (1 + 11) + rm2.locals ≤ rm.locals) (hrc : rm2.cells = mc) (hrs : rm2.slots = ms) (hc : cells + 1 + mc ≤ rm.cells) (hs : slots + N + ms ≤ rm.slots) (hq : pc + 7 = q)
    (kk : ∀ (a : Nat) (w1 : va_W), post a w1 → KW D A K Q (cells + 1 + mc) (slots + N + ms) q h0 [.ref a, .ref h0] (x0 :: (r ++ w1))) : KW D A K Q cells slots pc h0 [.ref h0] (x0 :: r) := by
  subst hq
  obtain ⟨p, l1, e, R, s, m, args, below, meth, cd⟩ := K
  obtain ⟨hx, hb, hml, hown, hts, hK, hr, hlocks, hin, hR, hl1, hns, hao, hA⟩ := X
  intro H locs ls hP hD hS hl
  subst hR
  subst hl1
  obtain ⟨C, Tt, ty, n1, n2, n3, n4, n5, n6, n7⟩ := nw
  obtain ⟨m1, m2, m3, m4, m5, m6, m7⟩ := mi
  refine va_new (ci := ci) (fs := fs) hx hb hts n2 ty n3 hown (hts _ n4) (hts _ n5) (hts _ n6) hK hP hD hS hA n1 n7 (by omega) (by omega) d1 (fun a H1 hP1 hD1 hS1 => ?_)
  refine lv_dup hx hb d2 rfl ?_
  have hPc : va_P D vwCl [(a, .inr (ci, fs))] H1 := fun k z hz => by
    have hj := (List.getElem?_eq_some_iff.mp hz).1
    simp only [List.length_cons, List.length_nil] at hj
    rw [show k = 0 by omega] at hz
    cases hz
    exact hP1 (x0 :: r).length _ (by rw [List.getElem?_append_right (Nat.le_refl _), Nat.sub_self]; rfl)
  have hFc : ∀ z, va_A [(a, .inr (ci, fs))] H1.size z → A z := fun z hz => by
    rcases hz with ⟨k, e9, hz⟩ | hz
    · have hj := (List.getElem?_eq_some_iff.mp hz).1
      simp only [List.length_cons, List.length_nil] at hj
      rw [show k = 0 by omega] at hz
      cases hz
      exact hD1.2 (x0 :: r).length _ (by rw [List.getElem?_append_right (Nat.le_refl _), Nat.sub_self]; rfl)
    · exact hA z (Nat.le_trans hS1.1 hz)
  refine va_callv (va_runIN (host := RX8) (b := a) (As := []) (rest := [.ref a, .ref h0]) (Ts := wsL_law) (n := 0) ⟨hx, hb, hml, hown, hts⟩ (hM a H1.size)
    ⟨va_cnB (rm := rm2) (mc := mc) (ms := ms) 0 hts (gw_in m1) rfl hrc hrs (hns _ lk) (hts _ m2) ⟨m4, m5, m6⟩ hR2, m7, hts _ m3⟩
    ⟨k_blind, fun U hU hW => ⟨rfl, by rw [hU], by rw [hU]; exact hPc, va_K.moved hW.alike hK, hns.warm hW, AOA_warm hW hao⟩⟩
    rfl rfl hl.1 rfl (lv_room (Nat.le_of_ble_eq_true rfl)) d3 ⟨hc, hs⟩) hS1 (fun z _ h => hFc z h) hFc (fun w1 t H2 locs2 ht hvm hw hB hz1 hk1 hS2 => ?_)
  obtain ⟨hP2, hD2⟩ := hB
  rw [ht] at hP2
  obtain ⟨hP3, hD3⟩ := va_joinE hP1 hD1 hk1 hFc hP2 hD2
  exact kk a w1 hw H2 locs2 ls hP3 hD3 hS2 hl
theorem K_mna {idx : Nat} (X : KX l D T A K cc own rm) (hcl : Cond.classLink own idx "[[I" ∈ wsL_law) (d : decode cc pc = .ok (.multianewarray idx 2, 4)) (hc : cells + 1 + 14 ≤ rm.cells) (hs : slots + 14 + 14 * 200 ≤ rm.slots) (hq : pc + 4 = q)
    (kk : ∀ (a : Nat) (rw_ : Nat → Nat), KW D A K Q (cells + 1 + 14) (slots + 14 + 14 * 200) q h0 (.ref a :: st) (x0 :: (r ++ ((a, .inl (T.2.2, 14, .inr (.inr (.inr (.inr (fun i => if i < 14 then some (rw_ i) else none)))))) :: (List.range 14).map (fun i => (rw_ i, zA T.1 200)))))) : KW D A K Q cells slots pc h0 (.int (zI 200) :: .int (zI 14) :: st) (x0 :: r) := by
  subst hq
  obtain ⟨p, l1, e, R, s, m, args, below, meth, cd⟩ := K
  obtain ⟨hx, hb, hml, hown, hts, hK, hr, hlocks, hin, hR, hl1, hns, hao, hA⟩ := X
  intro H locs ls hP hD hS hl
  subst hR
  have hP0 : va_P D vwCl ((x0 :: r) ++ va_pl [] (fun _ => zA T.1 0)) H := by show va_P D vwCl ((x0 :: r) ++ []) H; rw [List.append_nil]; exact hP
  have hD0 : va_D A ((x0 :: r) ++ va_pl [] (fun _ => zA T.1 0)) := by show va_D A ((x0 :: r) ++ []); rw [List.append_nil]; exact hD
  refine va_mna (ty := .int) (cy := T.1) hx hb hown (hts _ hcl) hao (hts _ q_aI) (hK.2 0 _ rfl).2 hK hP0 hD0 hS hA (N' := 14) (K' := 200) (z := (200, .inl (fun _ => (0 : Int32)))) (by decide) (by decide) (by decide) (by decide) (by decide) (by decide) (by decide) (by decide) (by decide) (by omega) (by omega) (fun c => ?_) d (fun a rw_ cA H1 hri hrn hK1 hP1 hD1 hS1 => ?_)
  · show ({ cls := c, slots := Array.replicate 200 (defaultValue .int), vm := .none } : Cell) = _
    rw [arrV_new]
    rfl
  · have e1 : cA = T.2.2 := Option.some.inj ((hK1.2 3 _ rfl).2.symm.trans (hK.2 2 _ rfl).2)
    subst e1
    have el : va_pl ([] ++ (List.range 14).map rw_) (vr_up (fun _ => zA T.1 0) ((List.range 14).map rw_) (zA T.1 200)) = (List.range 14).map (fun i => (rw_ i, zA T.1 200)) := by
      unfold va_pl
      rw [List.nil_append, List.map_map]
      apply List.map_congr_left
      intro i hi
      show (rw_ i, vr_up _ _ _ (rw_ i)) = _
      rw [vr_up_in (List.mem_map.mpr ⟨i, hi, rfl⟩)]
    have ea : ∀ (y : Nat × va_E) (z : va_W), ((x0 :: r) ++ [y]) ++ z = x0 :: (r ++ (y :: z)) := fun y z => by simp
    rw [el, ea] at hP1 hD1
    exact kk a rw_ H1 locs ls hP1 hD1 hS1 hl
end KL
theorem nwL_7 : NW RL 7 8 12 [.null, .null, .null, .null, .null, .null, .null, .null, .null, .null, .null, .long 0] := ⟨RX8, TX8, tyX8, rfl, inlX8, tyX8_ok, List.mem_of_getElem? (i := 0) (by decide +kernel), List.mem_of_getElem? (i := 1) (by decide +kernel), List.mem_of_getElem? (i := 2) (by decide +kernel), fun j hj => by rcases (show j = 0 ∨ j = 1 ∨ j = 2 ∨ j = 3 ∨ j = 4 ∨ j = 5 ∨ j = 6 ∨ j = 7 ∨ j = 8 ∨ j = 9 ∨ j = 10 ∨ j = 11 by omega) with rfl | rfl | rfl | rfl | rfl | rfl | rfl | rfl | rfl | rfl | rfl | rfl <;> rfl⟩
theorem nwL_10 : NW RL 10 9 23 [.int (zI 0), .null, .int (zI 0), .null, .null, .null, .null, .null, .int (zI 0), .null, .null, .int (zI 0), .null, .null, .long 0, .null, .null, .null, .null, .null, .int (zI 0), .null, .int (zI 0)] := ⟨RX9, TX9, tyX9, rfl, inlX9, tyX9_ok, List.mem_of_getElem? (i := 3) (by decide +kernel), List.mem_of_getElem? (i := 4) (by decide +kernel), List.mem_of_getElem? (i := 5) (by decide +kernel), fun j hj => by rcases (show j = 0 ∨ j = 1 ∨ j = 2 ∨ j = 3 ∨ j = 4 ∨ j = 5 ∨ j = 6 ∨ j = 7 ∨ j = 8 ∨ j = 9 ∨ j = 10 ∨ j = 11 ∨ j = 12 ∨ j = 13 ∨ j = 14 ∨ j = 15 ∨ j = 16 ∨ j = 17 ∨ j = 18 ∨ j = 19 ∨ j = 20 ∨ j = 21 ∨ j = 22 by omega) with rfl | rfl | rfl | rfl | rfl | rfl | rfl | rfl | rfl | rfl | rfl | rfl | rfl | rfl | rfl | rfl | rfl | rfl | rfl | rfl | rfl | rfl | rfl <;> rfl⟩
theorem nwX8_7 : NW RX8 7 6 3 [.null, .int (zI 0), .int (zI 0)] := ⟨RX6, TX6, tyX6, rfl, inlX6, tyX6_ok, List.mem_of_getElem? (i := 13) (by decide +kernel), List.mem_of_getElem? (i := 14) (by decide +kernel), List.mem_of_getElem? (i := 15) (by decide +kernel), fun j hj => by rcases (show j = 0 ∨ j = 1 ∨ j = 2 by omega) with rfl | rfl | rfl <;> rfl⟩
theorem ffX8_10 : FF RX8 10 8 0 (.object "SubstitutionMachine$Term") := ⟨RX8, TX8, 12, tyX8, rfl, by decide, inlX8, List.mem_of_getElem? (i := 16) (by decide +kernel), tyX8_ok, nmX8, rfl, rfl, rfl⟩
theorem ffX8_16 : FF RX8 16 8 1 (.object "SubstitutionMachine$Term") := ⟨RX8, TX8, 12, tyX8, rfl, by decide, inlX8, List.mem_of_getElem? (i := 17) (by decide +kernel), tyX8_ok, nmX8, rfl, rfl, rfl⟩
theorem ffX8_19 : FF RX8 19 8 2 (.object "SubstitutionMachine$Term") := ⟨RX8, TX8, 12, tyX8, rfl, by decide, inlX8, List.mem_of_getElem? (i := 18) (by decide +kernel), tyX8_ok, nmX8, rfl, rfl, rfl⟩
theorem ffX8_22 : FF RX8 22 8 3 (.object "SubstitutionMachine$Term") := ⟨RX8, TX8, 12, tyX8, rfl, by decide, inlX8, List.mem_of_getElem? (i := 19) (by decide +kernel), tyX8_ok, nmX8, rfl, rfl, rfl⟩
theorem ffX8_25 : FF RX8 25 8 4 (.object "SubstitutionMachine$Term") := ⟨RX8, TX8, 12, tyX8, rfl, by decide, inlX8, List.mem_of_getElem? (i := 20) (by decide +kernel), tyX8_ok, nmX8, rfl, rfl, rfl⟩
theorem nwX8_28 : NW RX8 28 4 3 [.null, .null, .int (zI 0)] := ⟨RX4, TX4, tyX4, rfl, inlX4, tyX4_ok, List.mem_of_getElem? (i := 21) (by decide +kernel), List.mem_of_getElem? (i := 22) (by decide +kernel), List.mem_of_getElem? (i := 23) (by decide +kernel), fun j hj => by rcases (show j = 0 ∨ j = 1 ∨ j = 2 by omega) with rfl | rfl | rfl <;> rfl⟩
theorem ffX8_31 : FF RX8 31 8 5 (.object "SubstitutionMachine$Outline") := ⟨RX8, TX8, 12, tyX8, rfl, by decide, inlX8, List.mem_of_getElem? (i := 24) (by decide +kernel), tyX8_ok, nmX8, rfl, rfl, rfl⟩
theorem nwX8_35 : NW RX8 35 5 3 [.null, .null, .null] := ⟨RX5, TX5, tyX5, rfl, inlX5, tyX5_ok, List.mem_of_getElem? (i := 25) (by decide +kernel), List.mem_of_getElem? (i := 26) (by decide +kernel), List.mem_of_getElem? (i := 27) (by decide +kernel), fun j hj => by rcases (show j = 0 ∨ j = 1 ∨ j = 2 by omega) with rfl | rfl | rfl <;> rfl⟩
theorem ffX8_38 : FF RX8 38 8 6 (.object "SubstitutionMachine$Reducer") := ⟨RX8, TX8, 12, tyX8, rfl, by decide, inlX8, List.mem_of_getElem? (i := 28) (by decide +kernel), tyX8_ok, nmX8, rfl, rfl, rfl⟩
theorem nwX8_42 : NW RX8 42 2 4 [.null, .null, .null, .int (zI 0)] := ⟨RX2, TX2, tyX2, rfl, inlX2, tyX2_ok, List.mem_of_getElem? (i := 29) (by decide +kernel), List.mem_of_getElem? (i := 30) (by decide +kernel), List.mem_of_getElem? (i := 31) (by decide +kernel), fun j hj => by rcases (show j = 0 ∨ j = 1 ∨ j = 2 ∨ j = 3 by omega) with rfl | rfl | rfl | rfl <;> rfl⟩
theorem ffX8_45 : FF RX8 45 8 7 (.object "SubstitutionMachine$Machine") := ⟨RX8, TX8, 12, tyX8, rfl, by decide, inlX8, List.mem_of_getElem? (i := 32) (by decide +kernel), tyX8_ok, nmX8, rfl, rfl, rfl⟩
theorem nwX8_49 : NW RX8 49 1 4 [.null, .null, .int (zI 0), .int (zI 0)] := ⟨RX1, TX1, tyX1, rfl, inlX1, tyX1_ok, List.mem_of_getElem? (i := 33) (by decide +kernel), List.mem_of_getElem? (i := 34) (by decide +kernel), List.mem_of_getElem? (i := 35) (by decide +kernel), fun j hj => by rcases (show j = 0 ∨ j = 1 ∨ j = 2 ∨ j = 3 by omega) with rfl | rfl | rfl | rfl <;> rfl⟩
theorem ffX8_52 : FF RX8 52 8 8 (.object "SubstitutionMachine$History") := ⟨RX8, TX8, 12, tyX8, rfl, by decide, inlX8, List.mem_of_getElem? (i := 36) (by decide +kernel), tyX8_ok, nmX8, rfl, rfl, rfl⟩
theorem nwX8_56 : NW RX8 56 7 2 [.null, .int (zI 0)] := ⟨RX7, TX7, tyX7, rfl, inlX7, tyX7_ok, List.mem_of_getElem? (i := 37) (by decide +kernel), List.mem_of_getElem? (i := 38) (by decide +kernel), List.mem_of_getElem? (i := 39) (by decide +kernel), fun j hj => by rcases (show j = 0 ∨ j = 1 by omega) with rfl | rfl <;> rfl⟩
theorem ffX8_59 : FF RX8 59 8 9 (.object "SubstitutionMachine$TermText") := ⟨RX8, TX8, 12, tyX8, rfl, by decide, inlX8, List.mem_of_getElem? (i := 40) (by decide +kernel), tyX8_ok, nmX8, rfl, rfl, rfl⟩
theorem nwX8_63 : NW RX8 63 3 3 [.null, .null, .int (zI 0)] := ⟨RX3, TX3, tyX3, rfl, inlX3, tyX3_ok, List.mem_of_getElem? (i := 41) (by decide +kernel), List.mem_of_getElem? (i := 42) (by decide +kernel), List.mem_of_getElem? (i := 43) (by decide +kernel), fun j hj => by rcases (show j = 0 ∨ j = 1 ∨ j = 2 by omega) with rfl | rfl | rfl <;> rfl⟩
theorem ffX8_66 : FF RX8 66 8 10 (.object "SubstitutionMachine$Observations") := ⟨RX8, TX8, 12, tyX8, rfl, by decide, inlX8, List.mem_of_getElem? (i := 44) (by decide +kernel), tyX8_ok, nmX8, rfl, rfl, rfl⟩
theorem ffX6_9 : FF RX6 9 6 0 (.array .int) := ⟨RX6, TX6, 3, tyX6, rfl, by decide, inlX6, List.mem_of_getElem? (i := 50) (by decide +kernel), tyX6_ok, nmX6, rfl, rfl, rfl⟩
theorem ffX4_9 : FF RX4 9 4 0 (.array .int) := ⟨RX4, TX4, 3, tyX4, rfl, by decide, inlX4, List.mem_of_getElem? (i := 56) (by decide +kernel), tyX4_ok, nmX4, rfl, rfl, rfl⟩
theorem ffX4_15 : FF RX4 15 4 1 (.array .int) := ⟨RX4, TX4, 3, tyX4, rfl, by decide, inlX4, List.mem_of_getElem? (i := 57) (by decide +kernel), tyX4_ok, nmX4, rfl, rfl, rfl⟩
theorem nwX5_9 : NW RX5 9 4 3 [.null, .null, .int (zI 0)] := ⟨RX4, TX4, tyX4, rfl, inlX4, tyX4_ok, List.mem_of_getElem? (i := 62) (by decide +kernel), List.mem_of_getElem? (i := 22) (by decide +kernel), List.mem_of_getElem? (i := 23) (by decide +kernel), fun j hj => by rcases (show j = 0 ∨ j = 1 ∨ j = 2 by omega) with rfl | rfl | rfl <;> rfl⟩
theorem ffX5_12 : FF RX5 12 5 0 (.object "SubstitutionMachine$Outline") := ⟨RX5, TX5, 3, tyX5, rfl, by decide, inlX5, List.mem_of_getElem? (i := 63) (by decide +kernel), tyX5_ok, nmX5, rfl, rfl, rfl⟩
theorem ffX5_18 : FF RX5 18 5 1 (.object "SubstitutionMachine$Outline") := ⟨RX5, TX5, 3, tyX5, rfl, by decide, inlX5, List.mem_of_getElem? (i := 64) (by decide +kernel), tyX5_ok, nmX5, rfl, rfl, rfl⟩
theorem nwX5_21 : NW RX5 21 6 3 [.null, .int (zI 0), .int (zI 0)] := ⟨RX6, TX6, tyX6, rfl, inlX6, tyX6_ok, List.mem_of_getElem? (i := 65) (by decide +kernel), List.mem_of_getElem? (i := 14) (by decide +kernel), List.mem_of_getElem? (i := 15) (by decide +kernel), fun j hj => by rcases (show j = 0 ∨ j = 1 ∨ j = 2 by omega) with rfl | rfl | rfl <;> rfl⟩
theorem ffX5_24 : FF RX5 24 5 2 (.object "SubstitutionMachine$Term") := ⟨RX5, TX5, 3, tyX5, rfl, by decide, inlX5, List.mem_of_getElem? (i := 66) (by decide +kernel), tyX5_ok, nmX5, rfl, rfl, rfl⟩
theorem nwX2_9 : NW RX2 9 0 5 [.null, .null, .null, .int (zI 0), .int (zI 0)] := ⟨RX0, TX0, tyX0, rfl, inlX0, tyX0_ok, List.mem_of_getElem? (i := 70) (by decide +kernel), List.mem_of_getElem? (i := 71) (by decide +kernel), List.mem_of_getElem? (i := 72) (by decide +kernel), fun j hj => by rcases (show j = 0 ∨ j = 1 ∨ j = 2 ∨ j = 3 ∨ j = 4 by omega) with rfl | rfl | rfl | rfl | rfl <;> rfl⟩
theorem ffX2_21 : FF RX2 21 2 2 (.array .int) := ⟨RX2, TX2, 4, tyX2, rfl, by decide, inlX2, List.mem_of_getElem? (i := 75) (by decide +kernel), tyX2_ok, nmX2, rfl, rfl, rfl⟩
theorem ffX0_9 : FF RX0 9 0 0 (.array .int) := ⟨RX0, TX0, 5, tyX0, rfl, by decide, inlX0, List.mem_of_getElem? (i := 80) (by decide +kernel), tyX0_ok, nmX0, rfl, rfl, rfl⟩
theorem ffX0_15 : FF RX0 15 0 1 (.array .int) := ⟨RX0, TX0, 5, tyX0, rfl, by decide, inlX0, List.mem_of_getElem? (i := 81) (by decide +kernel), tyX0_ok, nmX0, rfl, rfl, rfl⟩
theorem ffX0_18 : FF RX0 18 0 2 (.array .int) := ⟨RX0, TX0, 5, tyX0, rfl, by decide, inlX0, List.mem_of_getElem? (i := 82) (by decide +kernel), tyX0_ok, nmX0, rfl, rfl, rfl⟩
theorem ffX1_11 : FF RX1 11 1 0 (.array (.array .int)) := ⟨RX1, TX1, 4, tyX1, rfl, by decide, inlX1, List.mem_of_getElem? (i := 89) (by decide +kernel), tyX1_ok, nmX1, rfl, rfl, rfl⟩
theorem ffX1_16 : FF RX1 16 1 1 (.array .int) := ⟨RX1, TX1, 4, tyX1, rfl, by decide, inlX1, List.mem_of_getElem? (i := 90) (by decide +kernel), tyX1_ok, nmX1, rfl, rfl, rfl⟩
theorem ffX7_9 : FF RX7 9 7 0 (.array .int) := ⟨RX7, TX7, 2, tyX7, rfl, by decide, inlX7, List.mem_of_getElem? (i := 96) (by decide +kernel), tyX7_ok, nmX7, rfl, rfl, rfl⟩
theorem ffX3_9 : FF RX3 9 3 0 (.array .int) := ⟨RX3, TX3, 3, tyX3, rfl, by decide, inlX3, List.mem_of_getElem? (i := 101) (by decide +kernel), tyX3_ok, nmX3, rfl, rfl, rfl⟩
theorem ffX3_15 : FF RX3 15 3 1 (.array .int) := ⟨RX3, TX3, 3, tyX3, rfl, by decide, inlX3, List.mem_of_getElem? (i := 102) (by decide +kernel), tyX3_ok, nmX3, rfl, rfl, rfl⟩
theorem ffX9_7 : FF RX9 7 9 1 (.array .int) := ⟨RX9, TX9, 23, tyX9, rfl, by decide, inlX9, List.mem_of_getElem? (i := 112) (by decide +kernel), tyX9_ok, nmX9, rfl, rfl, rfl⟩
theorem ffX9_13 : FF RX9 13 9 3 (.array .int) := ⟨RX9, TX9, 23, tyX9, rfl, by decide, inlX9, List.mem_of_getElem? (i := 113) (by decide +kernel), tyX9_ok, nmX9, rfl, rfl, rfl⟩
theorem ffX9_16 : FF RX9 16 9 4 (.array .int) := ⟨RX9, TX9, 23, tyX9, rfl, by decide, inlX9, List.mem_of_getElem? (i := 114) (by decide +kernel), tyX9_ok, nmX9, rfl, rfl, rfl⟩
theorem ffX9_19 : FF RX9 19 9 5 (.array .int) := ⟨RX9, TX9, 23, tyX9, rfl, by decide, inlX9, List.mem_of_getElem? (i := 115) (by decide +kernel), tyX9_ok, nmX9, rfl, rfl, rfl⟩
theorem ffX9_22 : FF RX9 22 9 6 (.array .int) := ⟨RX9, TX9, 23, tyX9, rfl, by decide, inlX9, List.mem_of_getElem? (i := 116) (by decide +kernel), tyX9_ok, nmX9, rfl, rfl, rfl⟩
theorem ffX9_25 : FF RX9 25 9 7 (.array .int) := ⟨RX9, TX9, 23, tyX9, rfl, by decide, inlX9, List.mem_of_getElem? (i := 117) (by decide +kernel), tyX9_ok, nmX9, rfl, rfl, rfl⟩
theorem ffX9_28 : FF RX9 28 9 9 (.array .int) := ⟨RX9, TX9, 23, tyX9, rfl, by decide, inlX9, List.mem_of_getElem? (i := 118) (by decide +kernel), tyX9_ok, nmX9, rfl, rfl, rfl⟩
theorem ffX9_31 : FF RX9 31 9 10 (.array .boolean) := ⟨RX9, TX9, 23, tyX9, rfl, by decide, inlX9, List.mem_of_getElem? (i := 120) (by decide +kernel), tyX9_ok, nmX9, rfl, rfl, rfl⟩
theorem ffX9_35 : FF RX9 35 9 12 (.array .int) := ⟨RX9, TX9, 23, tyX9, rfl, by decide, inlX9, List.mem_of_getElem? (i := 121) (by decide +kernel), tyX9_ok, nmX9, rfl, rfl, rfl⟩
theorem ffX9_38 : FF RX9 38 9 13 (.array .int) := ⟨RX9, TX9, 23, tyX9, rfl, by decide, inlX9, List.mem_of_getElem? (i := 122) (by decide +kernel), tyX9_ok, nmX9, rfl, rfl, rfl⟩
theorem ffX9_41 : FF RX9 41 9 15 (.array .int) := ⟨RX9, TX9, 23, tyX9, rfl, by decide, inlX9, List.mem_of_getElem? (i := 123) (by decide +kernel), tyX9_ok, nmX9, rfl, rfl, rfl⟩
theorem ffX9_44 : FF RX9 44 9 16 (.array .int) := ⟨RX9, TX9, 23, tyX9, rfl, by decide, inlX9, List.mem_of_getElem? (i := 124) (by decide +kernel), tyX9_ok, nmX9, rfl, rfl, rfl⟩
theorem ffX9_47 : FF RX9 47 9 17 (.array .boolean) := ⟨RX9, TX9, 23, tyX9, rfl, by decide, inlX9, List.mem_of_getElem? (i := 125) (by decide +kernel), tyX9_ok, nmX9, rfl, rfl, rfl⟩
theorem ffX9_50 : FF RX9 50 9 18 (.array .int) := ⟨RX9, TX9, 23, tyX9, rfl, by decide, inlX9, List.mem_of_getElem? (i := 126) (by decide +kernel), tyX9_ok, nmX9, rfl, rfl, rfl⟩
theorem ffX9_53 : FF RX9 53 9 19 (.array .int) := ⟨RX9, TX9, 23, tyX9, rfl, by decide, inlX9, List.mem_of_getElem? (i := 127) (by decide +kernel), tyX9_ok, nmX9, rfl, rfl, rfl⟩
theorem ffX9_56 : FF RX9 56 9 21 (.array .int) := ⟨RX9, TX9, 23, tyX9, rfl, by decide, inlX9, List.mem_of_getElem? (i := 128) (by decide +kernel), tyX9_ok, nmX9, rfl, rfl, rfl⟩
theorem miX8_init : MI yX8_init cX8_init := ⟨List.mem_of_getElem? (i := 9) (by decide +kernel), List.mem_of_getElem? (i := 2) (by decide +kernel), List.mem_of_getElem? (i := 8) (by decide +kernel), by decide +kernel, by decide +kernel, by decide +kernel, rfl⟩
theorem miX6_init : MI yX6_init cX6_init := ⟨List.mem_of_getElem? (i := 47) (by decide +kernel), List.mem_of_getElem? (i := 15) (by decide +kernel), List.mem_of_getElem? (i := 46) (by decide +kernel), by decide +kernel, by decide +kernel, by decide +kernel, rfl⟩
theorem miX4_init : MI yX4_init cX4_init := ⟨List.mem_of_getElem? (i := 54) (by decide +kernel), List.mem_of_getElem? (i := 23) (by decide +kernel), List.mem_of_getElem? (i := 53) (by decide +kernel), by decide +kernel, by decide +kernel, by decide +kernel, rfl⟩
theorem miX5_init : MI yX5_init cX5_init := ⟨List.mem_of_getElem? (i := 60) (by decide +kernel), List.mem_of_getElem? (i := 27) (by decide +kernel), List.mem_of_getElem? (i := 59) (by decide +kernel), by decide +kernel, by decide +kernel, by decide +kernel, rfl⟩
theorem miX2_init : MI yX2_init cX2_init := ⟨List.mem_of_getElem? (i := 68) (by decide +kernel), List.mem_of_getElem? (i := 31) (by decide +kernel), List.mem_of_getElem? (i := 67) (by decide +kernel), by decide +kernel, by decide +kernel, by decide +kernel, rfl⟩
theorem miX0_init : MI yX0_init cX0_init := ⟨List.mem_of_getElem? (i := 78) (by decide +kernel), List.mem_of_getElem? (i := 72) (by decide +kernel), List.mem_of_getElem? (i := 77) (by decide +kernel), by decide +kernel, by decide +kernel, by decide +kernel, rfl⟩
theorem miX1_init : MI yX1_init cX1_init := ⟨List.mem_of_getElem? (i := 86) (by decide +kernel), List.mem_of_getElem? (i := 35) (by decide +kernel), List.mem_of_getElem? (i := 85) (by decide +kernel), by decide +kernel, by decide +kernel, by decide +kernel, rfl⟩
theorem miX7_init : MI yX7_init cX7_init := ⟨List.mem_of_getElem? (i := 94) (by decide +kernel), List.mem_of_getElem? (i := 39) (by decide +kernel), List.mem_of_getElem? (i := 93) (by decide +kernel), by decide +kernel, by decide +kernel, by decide +kernel, rfl⟩
theorem miX3_init : MI yX3_init cX3_init := ⟨List.mem_of_getElem? (i := 99) (by decide +kernel), List.mem_of_getElem? (i := 43) (by decide +kernel), List.mem_of_getElem? (i := 98) (by decide +kernel), by decide +kernel, by decide +kernel, by decide +kernel, rfl⟩
theorem miX9_init : MI yX9_init cX9_init := ⟨List.mem_of_getElem? (i := 110) (by decide +kernel), List.mem_of_getElem? (i := 5) (by decide +kernel), List.mem_of_getElem? (i := 109) (by decide +kernel), by decide +kernel, by decide +kernel, by decide +kernel, rfl⟩
theorem q_ll : Cond.classLink RX1 9 "[[I" ∈ wsL_law := List.mem_of_getElem? (i := 88) (by decide +kernel)
