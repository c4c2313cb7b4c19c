/-! calls, and a method from its entry -/
theorem gw_all : wsL_law.all goodWord = true := by decide +kernel
theorem gw_in {y : MethodName} {cc : ByteArray} {nL : Nat} {ret : Option FieldType} (h : Cond.code y cc nL ret ∈ wsL_law) : GoodIn wsL_law (.code y cc nL ret :: wsL_law) := fun w hw => by
  have hm : w ∈ wsL_law := by
    rcases List.mem_cons.mp hw with e | e
    · rw [e]; exact h
    · exact e
  exact ⟨hm, good_of_word (List.all_eq_true.mp gw_all w hm)⟩
/-- what the tables say of a method that is called: as an object's method, as a static one -/
def MV (y : MethodName) (cc : ByteArray) (nL : Nat) (ret : Option FieldType) (n : Nat) : Prop := Cond.code y cc nL ret ∈ wsL_law ∧ Cond.initialized y.cls ∈ wsL_law ∧ Cond.instanceMethod y ∈ wsL_law ∧ Cond.selects y.cls y y ∈ wsL_law ∧ y.cls ≠ "java/lang/invoke/MethodHandle" ∧ y.cls ≠ "java/lang/invoke/VarHandle" ∧ (parseMethodDescriptor y.desc).map (fun d => d.parameters.length) = some n
def MS (y : MethodName) (cc : ByteArray) (nL : Nat) (ret : Option FieldType) (n : Nat) : Prop := Cond.code y cc nL ret ∈ wsL_law ∧ Cond.initialized y.cls ∈ wsL_law ∧ Cond.static y ∈ wsL_law ∧ y.cls ≠ "java/lang/invoke/MethodHandle" ∧ y.cls ≠ "java/lang/invoke/VarHandle" ∧ (parseMethodDescriptor y.desc).map (fun d => d.parameters.length) = some n
theorem pre_blind {G : Gm} {args : List Value} {c : HP} : FrameBlind (va_Pc args (fun U => va_P G.2.2.1 vwCl (layG G c) U.heap ∧ va_K G.2.2.1 vwCl (tyG G) U ∧ nsK U)) := by
  intro a U g mk h
  obtain ⟨h0, h1, h2, h3⟩ := h
  exact ⟨h0, h1, va_K.moved (u := U) (U := U.calling g mk a) (Vm.Alike.refl U.vm) h2, nsK.same rfl h3⟩
section AC
variable {l : Launch} {G : Gm} {K : Cx} {cc : ByteArray} {nL : Nat} {own : String} {ret : Option FieldType} {rm : Room} {Q : Option Value → HP → Prop} {pc q : Nat} {L : Nat → Option Value} {st : List Value} {c : HP}
theorem A_run {p : Program} {e : Env} {R : Room} {s : State} {m : MethodId} {args : Array Value} {below : List Frame} {meth : Method} {cd : Code} {H : Heap} {locs : List Loc} {ls : Array Slot} {st0 rest : List Value} {Qm : Option Value → HP → Prop} {a : Array Value} {QQ : State → Prop}
    (hr : va_Run p l e R s m args below meth cd H locs 0 0 0 0 (F0 m pc ls st0) rest (PQ G Qm a) (FA G)) (hS : va_S (FA G) s.heap H locs)
    (kk : ∀ (r : Option Value) (c' : HP) (H1 : Heap) (locs1 : List Loc), Qm r c' → va_P G.2.2.1 vwCl (layG G c') H1 → va_S (FA G) s.heap H1 locs1 → W p l e R s m args below meth cd H1 locs1 0 0 QQ (F0 m (pc + 3) ls (r.toList ++ rest))) :
    W p l e R s m args below meth cd H locs 0 0 QQ (F0 m pc ls st0) := by
  intro T hT X
  obtain ⟨v, st₀, t, T', L1, h0, X', hL, e1, e2, ⟨r, c', hv, hq, hp, hz, hk⟩, st1⟩ := hr T hT X
  cases hv
  rw [h0] at hz hk
  obtain ⟨t2, a1, b1⟩ := kk v c' T'.heap (locs ++ L1) hq (by rw [e1]; exact hp)
    ⟨Nat.le_trans hS.1 (by rw [e1]; exact hz), fun q h1 h2 => by rw [e1, hk q (Nat.lt_of_lt_of_le h1 hS.1) h2]; exact hS.2.1 q h1 h2, fun q hq => by
      rcases List.mem_append.mp hq with h | h
      · exact hS.2.2 q h
      · exact hL q h⟩ T' rfl X'
  exact ⟨t2, st1 t2 a1, b1⟩
variable {y : MethodName} {cy : ByteArray} {nY f0 l0 : Nat} {rY : Option FieldType} {idx : Nat} {Qm : Option Value → HP → Prop} {n : Nat}
theorem A_callV {b ci : Nat} {fs : List Value} {T : u_T} {N : Nat} {As rest st0 : List Value} (X : Fx l G K cc nL own ret rm) (hM : AMet l G y cy nY rY (rmR f0 l0) (.ref (G.1 b) :: As) c Qm) (mv : MV y cy nY rY n) (lk : Cond.methodLink own idx y ∈ wsL_law) (hN : b < G.2.1) (hc : c b = .inr (ci, fs)) (hcl : vwCl[ci]? = some (y.cls, T, N)) (hR : f0 + 1 ≤ rm.frames ∧ 8 + (nY + 11) + l0 ≤ rm.locals)
    (hn : As.length = n) (hst : st0 = As.reverse ++ .ref (G.1 b) :: rest) (hW : (rest.map fun v => v.category).sum ≤ 8) (d : decode cc pc = .ok (.invokevirtual idx, 3)) (hq : pc + 3 = q)
    (kk : ∀ (r : Option Value) (c' : HP), Qm r c' → AW G K Q q L (r.toList ++ rest) c') : AW G K Q pc L st0 c := by
  subst hq
  obtain ⟨p, l1, e, R, s, m, args, below, meth, cd⟩ := K
  obtain ⟨hx, hb, hml, hown, hts, hK, hinj, hr, hlocks, hR1, hl1, hns⟩ := X
  subst hl1
  subst hR1
  obtain ⟨v1, v2, v3, v4, v5, v6, v7⟩ := mv
  intro H locs ls hP hS hl
  have hsz : ls.size = nL := by obtain ⟨l2, g1, -⟩ := hl; rw [g1.1]; exact hml
  refine A_run (va_runV (C := y.cls) (As := As) (b := G.1 b) (rest := rest) (Ts := wsL_law) (n := n) ⟨hx, hb, hml, hown, hts⟩ hM
    ⟨callB_of (rm := rmR f0 l0) (mc := 0) (ms := 0) n hts (gw_in v1) rfl rfl rfl (hts _ v2) (hts _ lk) ⟨v5, v6, v7⟩ hR, hts _ v3, hts _ v4⟩
    ⟨pre_blind, va_recv hK hP hcl (q0 := b) (by rw [layG_get hN, hc]), fun U hU hW => ⟨rfl, by rw [hU]; exact hP, va_K.moved hW.alike hK, hns.warm hW⟩⟩
    rfl hn hsz hst (lv_room hW) d ⟨Nat.zero_le _, Nat.zero_le _⟩) hS (fun r c' H1 locs1 hq hP1 hS1 => kk r c' hq H1 locs1 ls hP1 hS1 hl)
theorem A_callS {As rest st0 : List Value} (X : Fx l G K cc nL own ret rm) (hM : AMet l G y cy nY rY (rmR f0 l0) As c Qm) (mv : MS y cy nY rY n) (lk : Cond.methodLink own idx y ∈ wsL_law) (hR : f0 + 1 ≤ rm.frames ∧ 8 + (nY + 11) + l0 ≤ rm.locals)
    (hn : As.length = n) (hst : st0 = As.reverse ++ rest) (hW : (rest.map fun v => v.category).sum ≤ 8) (d : decode cc pc = .ok (.invokestatic idx, 3)) (hq : pc + 3 = q)
    (kk : ∀ (r : Option Value) (c' : HP), Qm r c' → AW G K Q q L (r.toList ++ rest) c') : AW G K Q pc L st0 c := by
  subst hq
  obtain ⟨p, l1, e, R, s, m, args, below, meth, cd⟩ := K
  obtain ⟨hx, hb, hml, hown, hts, hK, hinj, hr, hlocks, hR1, hl1, hns⟩ := X
  subst hl1
  subst hR1
  obtain ⟨v1, v2, v3, v5, v6, v7⟩ := mv
  intro H locs ls hP hS hl
  have hsz : ls.size = nL := by obtain ⟨l2, g1, -⟩ := hl; rw [g1.1]; exact hml
  refine A_run (va_runS (As := As) (rest := rest) (Ts := wsL_law) (n := n) ⟨hx, hb, hml, hown, hts⟩ hM
    ⟨callB_of (rm := rmR f0 l0) (mc := 0) (ms := 0) n hts (gw_in v1) rfl rfl rfl (hts _ v2) (hts _ lk) ⟨v5, v6, v7⟩ hR, hts _ v3⟩
    ⟨pre_blind, fun U hU hW => ⟨rfl, by rw [hU]; exact hP, va_K.moved hW.alike hK, hns.warm hW⟩⟩
    rfl hn hsz hst (lv_room hW) d ⟨Nat.zero_le _, Nat.zero_le _⟩) hS (fun r c' H1 locs1 hq hP1 hS1 => kk r c' hq H1 locs1 ls hP1 hS1 hl)
/-- a nest mate's private static method -/
theorem A_callN {As rest st0 : List Value} (X : Fx l G K cc nL own ret rm) (hM : AMet l G y cy nY rY (rmR f0 l0) As c Qm) (mv : MS y cy nY rY n) (lk : (own, idx, y) ∈ nsts) (hR : f0 + 1 ≤ rm.frames ∧ 8 + (nY + 11) + l0 ≤ rm.locals)
    (hn : As.length = n) (hst : st0 = As.reverse ++ rest) (hW : (rest.map fun v => v.category).sum ≤ 8) (d : decode cc pc = .ok (.invokestatic idx, 3)) (hq : pc + 3 = q)
    (kk : ∀ (r : Option Value) (c' : HP), Qm r c' → AW G K Q q L (r.toList ++ rest) c') : AW G K Q pc L st0 c := by
  subst hq
  obtain ⟨p, l1, e, R, s, m, args, below, meth, cd⟩ := K
  obtain ⟨hx, hb, hml, hown, hts, hK, hinj, hr, hlocks, hR1, hl1, hns⟩ := X
  subst hl1
  subst hR1
  obtain ⟨v1, v2, v3, v5, v6, v7⟩ := mv
  intro H locs ls hP hS hl
  have hsz : ls.size = nL := by obtain ⟨l2, g1, -⟩ := hl; rw [g1.1]; exact hml
  refine A_run (va_runSN (host := RX8) (As := As) (rest := rest) (Ts := wsL_law) (n := n) ⟨hx, hb, hml, hown, hts⟩ hM
    ⟨va_cnB (rm := rmR f0 l0) (mc := 0) (ms := 0) n hts (gw_in v1) rfl rfl rfl (hns _ lk) (hts _ v2) ⟨v5, v6, v7⟩ hR, hts _ v3, trivial⟩
    ⟨pre_blind, fun U hU hW => ⟨rfl, by rw [hU]; exact hP, va_K.moved hW.alike hK, hns.warm hW⟩⟩
    rfl hn hsz hst (lv_room hW) d ⟨Nat.zero_le _, Nat.zero_le _⟩) hS (fun r c' H1 locs1 hq hP1 hS1 => kk r c' hq H1 locs1 ls hP1 hS1 hl)

theorem A_V0i {b ci : Nat} {fs : List Value} {T : u_T} {N : Nat} {Qn : Int32 → HP → Prop} (X : Fx l G K cc nL own ret rm) (hM : AMet l G y cy nY rY (rmR f0 l0) (.ref (G.1 b) :: []) c (Qi Qn)) (mv : MV y cy nY rY 0) (lk : Cond.methodLink own idx y ∈ wsL_law) (d : decode cc pc = .ok (.invokevirtual idx, 3)) (hN : b < G.2.1) (hc : c b = .inr (ci, fs)) (hcl : vwCl[ci]? = some (y.cls, T, N)) (hR : f0 + 1 ≤ rm.frames ∧ 8 + (nY + 11) + l0 ≤ rm.locals) (hW : (st.map fun v => v.category).sum ≤ 8) (hq : pc + 3 = q)
    (kk : ∀ (v : Int32) (c' : HP), Qn v c' → AW G K Q q L (.int v :: st) c') : AW G K Q pc L (.ref (G.1 b) :: st) c :=
  A_callV (As := []) X hM mv lk hN hc hcl hR rfl rfl hW d hq (fun r c' h => by obtain ⟨v, rfl, h⟩ := h; exact kk v c' h)
theorem A_V0v {b ci : Nat} {fs : List Value} {T : u_T} {N : Nat} {Qn : HP → Prop} (X : Fx l G K cc nL own ret rm) (hM : AMet l G y cy nY rY (rmR f0 l0) (.ref (G.1 b) :: []) c (Qv Qn)) (mv : MV y cy nY rY 0) (lk : Cond.methodLink own idx y ∈ wsL_law) (d : decode cc pc = .ok (.invokevirtual idx, 3)) (hN : b < G.2.1) (hc : c b = .inr (ci, fs)) (hcl : vwCl[ci]? = some (y.cls, T, N)) (hR : f0 + 1 ≤ rm.frames ∧ 8 + (nY + 11) + l0 ≤ rm.locals) (hW : (st.map fun v => v.category).sum ≤ 8) (hq : pc + 3 = q)
    (kk : ∀ c' : HP, Qn c' → AW G K Q q L st c') : AW G K Q pc L (.ref (G.1 b) :: st) c :=
  A_callV (As := []) X hM mv lk hN hc hcl hR rfl rfl hW d hq (fun r c' h => by obtain ⟨rfl, h⟩ := h; exact kk c' h)
theorem A_V1i {b ci : Nat} {fs : List Value} {T : u_T} {N : Nat} {a1 : Value} {Qn : Int32 → HP → Prop} (X : Fx l G K cc nL own ret rm) (hM : AMet l G y cy nY rY (rmR f0 l0) (.ref (G.1 b) :: [a1]) c (Qi Qn)) (mv : MV y cy nY rY 1) (lk : Cond.methodLink own idx y ∈ wsL_law) (d : decode cc pc = .ok (.invokevirtual idx, 3)) (hN : b < G.2.1) (hc : c b = .inr (ci, fs)) (hcl : vwCl[ci]? = some (y.cls, T, N)) (hR : f0 + 1 ≤ rm.frames ∧ 8 + (nY + 11) + l0 ≤ rm.locals) (hW : (st.map fun v => v.category).sum ≤ 8) (hq : pc + 3 = q)
    (kk : ∀ (v : Int32) (c' : HP), Qn v c' → AW G K Q q L (.int v :: st) c') : AW G K Q pc L (a1 :: .ref (G.1 b) :: st) c :=
  A_callV (As := [a1]) X hM mv lk hN hc hcl hR rfl rfl hW d hq (fun r c' h => by obtain ⟨v, rfl, h⟩ := h; exact kk v c' h)
theorem A_V1v {b ci : Nat} {fs : List Value} {T : u_T} {N : Nat} {a1 : Value} {Qn : HP → Prop} (X : Fx l G K cc nL own ret rm) (hM : AMet l G y cy nY rY (rmR f0 l0) (.ref (G.1 b) :: [a1]) c (Qv Qn)) (mv : MV y cy nY rY 1) (lk : Cond.methodLink own idx y ∈ wsL_law) (d : decode cc pc = .ok (.invokevirtual idx, 3)) (hN : b < G.2.1) (hc : c b = .inr (ci, fs)) (hcl : vwCl[ci]? = some (y.cls, T, N)) (hR : f0 + 1 ≤ rm.frames ∧ 8 + (nY + 11) + l0 ≤ rm.locals) (hW : (st.map fun v => v.category).sum ≤ 8) (hq : pc + 3 = q)
    (kk : ∀ c' : HP, Qn c' → AW G K Q q L st c') : AW G K Q pc L (a1 :: .ref (G.1 b) :: st) c :=
  A_callV (As := [a1]) X hM mv lk hN hc hcl hR rfl rfl hW d hq (fun r c' h => by obtain ⟨rfl, h⟩ := h; exact kk c' h)
theorem A_V2i {b ci : Nat} {fs : List Value} {T : u_T} {N : Nat} {a1 a2 : Value} {Qn : Int32 → HP → Prop} (X : Fx l G K cc nL own ret rm) (hM : AMet l G y cy nY rY (rmR f0 l0) (.ref (G.1 b) :: [a1, a2]) c (Qi Qn)) (mv : MV y cy nY rY 2) (lk : Cond.methodLink own idx y ∈ wsL_law) (d : decode cc pc = .ok (.invokevirtual idx, 3)) (hN : b < G.2.1) (hc : c b = .inr (ci, fs)) (hcl : vwCl[ci]? = some (y.cls, T, N)) (hR : f0 + 1 ≤ rm.frames ∧ 8 + (nY + 11) + l0 ≤ rm.locals) (hW : (st.map fun v => v.category).sum ≤ 8) (hq : pc + 3 = q)
    (kk : ∀ (v : Int32) (c' : HP), Qn v c' → AW G K Q q L (.int v :: st) c') : AW G K Q pc L (a2 :: a1 :: .ref (G.1 b) :: st) c :=
  A_callV (As := [a1, a2]) X hM mv lk hN hc hcl hR rfl rfl hW d hq (fun r c' h => by obtain ⟨v, rfl, h⟩ := h; exact kk v c' h)
theorem A_V2v {b ci : Nat} {fs : List Value} {T : u_T} {N : Nat} {a1 a2 : Value} {Qn : HP → Prop} (X : Fx l G K cc nL own ret rm) (hM : AMet l G y cy nY rY (rmR f0 l0) (.ref (G.1 b) :: [a1, a2]) c (Qv Qn)) (mv : MV y cy nY rY 2) (lk : Cond.methodLink own idx y ∈ wsL_law) (d : decode cc pc = .ok (.invokevirtual idx, 3)) (hN : b < G.2.1) (hc : c b = .inr (ci, fs)) (hcl : vwCl[ci]? = some (y.cls, T, N)) (hR : f0 + 1 ≤ rm.frames ∧ 8 + (nY + 11) + l0 ≤ rm.locals) (hW : (st.map fun v => v.category).sum ≤ 8) (hq : pc + 3 = q)
    (kk : ∀ c' : HP, Qn c' → AW G K Q q L st c') : AW G K Q pc L (a2 :: a1 :: .ref (G.1 b) :: st) c :=
  A_callV (As := [a1, a2]) X hM mv lk hN hc hcl hR rfl rfl hW d hq (fun r c' h => by obtain ⟨rfl, h⟩ := h; exact kk c' h)
theorem A_V3i {b ci : Nat} {fs : List Value} {T : u_T} {N : Nat} {a1 a2 a3 : Value} {Qn : Int32 → HP → Prop} (X : Fx l G K cc nL own ret rm) (hM : AMet l G y cy nY rY (rmR f0 l0) (.ref (G.1 b) :: [a1, a2, a3]) c (Qi Qn)) (mv : MV y cy nY rY 3) (lk : Cond.methodLink own idx y ∈ wsL_law) (d : decode cc pc = .ok (.invokevirtual idx, 3)) (hN : b < G.2.1) (hc : c b = .inr (ci, fs)) (hcl : vwCl[ci]? = some (y.cls, T, N)) (hR : f0 + 1 ≤ rm.frames ∧ 8 + (nY + 11) + l0 ≤ rm.locals) (hW : (st.map fun v => v.category).sum ≤ 8) (hq : pc + 3 = q)
    (kk : ∀ (v : Int32) (c' : HP), Qn v c' → AW G K Q q L (.int v :: st) c') : AW G K Q pc L (a3 :: a2 :: a1 :: .ref (G.1 b) :: st) c :=
  A_callV (As := [a1, a2, a3]) X hM mv lk hN hc hcl hR rfl rfl hW d hq (fun r c' h => by obtain ⟨v, rfl, h⟩ := h; exact kk v c' h)
theorem A_V3v {b ci : Nat} {fs : List Value} {T : u_T} {N : Nat} {a1 a2 a3 : Value} {Qn : HP → Prop} (X : Fx l G K cc nL own ret rm) (hM : AMet l G y cy nY rY (rmR f0 l0) (.ref (G.1 b) :: [a1, a2, a3]) c (Qv Qn)) (mv : MV y cy nY rY 3) (lk : Cond.methodLink own idx y ∈ wsL_law) (d : decode cc pc = .ok (.invokevirtual idx, 3)) (hN : b < G.2.1) (hc : c b = .inr (ci, fs)) (hcl : vwCl[ci]? = some (y.cls, T, N)) (hR : f0 + 1 ≤ rm.frames ∧ 8 + (nY + 11) + l0 ≤ rm.locals) (hW : (st.map fun v => v.category).sum ≤ 8) (hq : pc + 3 = q)
    (kk : ∀ c' : HP, Qn c' → AW G K Q q L st c') : AW G K Q pc L (a3 :: a2 :: a1 :: .ref (G.1 b) :: st) c :=
  A_callV (As := [a1, a2, a3]) X hM mv lk hN hc hcl hR rfl rfl hW d hq (fun r c' h => by obtain ⟨rfl, h⟩ := h; exact kk c' h)
theorem A_V4i {b ci : Nat} {fs : List Value} {T : u_T} {N : Nat} {a1 a2 a3 a4 : Value} {Qn : Int32 → HP → Prop} (X : Fx l G K cc nL own ret rm) (hM : AMet l G y cy nY rY (rmR f0 l0) (.ref (G.1 b) :: [a1, a2, a3, a4]) c (Qi Qn)) (mv : MV y cy nY rY 4) (lk : Cond.methodLink own idx y ∈ wsL_law) (d : decode cc pc = .ok (.invokevirtual idx, 3)) (hN : b < G.2.1) (hc : c b = .inr (ci, fs)) (hcl : vwCl[ci]? = some (y.cls, T, N)) (hR : f0 + 1 ≤ rm.frames ∧ 8 + (nY + 11) + l0 ≤ rm.locals) (hW : (st.map fun v => v.category).sum ≤ 8) (hq : pc + 3 = q)
    (kk : ∀ (v : Int32) (c' : HP), Qn v c' → AW G K Q q L (.int v :: st) c') : AW G K Q pc L (a4 :: a3 :: a2 :: a1 :: .ref (G.1 b) :: st) c :=
  A_callV (As := [a1, a2, a3, a4]) X hM mv lk hN hc hcl hR rfl rfl hW d hq (fun r c' h => by obtain ⟨v, rfl, h⟩ := h; exact kk v c' h)
theorem A_V4v {b ci : Nat} {fs : List Value} {T : u_T} {N : Nat} {a1 a2 a3 a4 : Value} {Qn : HP → Prop} (X : Fx l G K cc nL own ret rm) (hM : AMet l G y cy nY rY (rmR f0 l0) (.ref (G.1 b) :: [a1, a2, a3, a4]) c (Qv Qn)) (mv : MV y cy nY rY 4) (lk : Cond.methodLink own idx y ∈ wsL_law) (d : decode cc pc = .ok (.invokevirtual idx, 3)) (hN : b < G.2.1) (hc : c b = .inr (ci, fs)) (hcl : vwCl[ci]? = some (y.cls, T, N)) (hR : f0 + 1 ≤ rm.frames ∧ 8 + (nY + 11) + l0 ≤ rm.locals) (hW : (st.map fun v => v.category).sum ≤ 8) (hq : pc + 3 = q)
    (kk : ∀ c' : HP, Qn c' → AW G K Q q L st c') : AW G K Q pc L (a4 :: a3 :: a2 :: a1 :: .ref (G.1 b) :: st) c :=
  A_callV (As := [a1, a2, a3, a4]) X hM mv lk hN hc hcl hR rfl rfl hW d hq (fun r c' h => by obtain ⟨rfl, h⟩ := h; exact kk c' h)
theorem A_V5i {b ci : Nat} {fs : List Value} {T : u_T} {N : Nat} {a1 a2 a3 a4 a5 : Value} {Qn : Int32 → HP → Prop} (X : Fx l G K cc nL own ret rm) (hM : AMet l G y cy nY rY (rmR f0 l0) (.ref (G.1 b) :: [a1, a2, a3, a4, a5]) c (Qi Qn)) (mv : MV y cy nY rY 5) (lk : Cond.methodLink own idx y ∈ wsL_law) (d : decode cc pc = .ok (.invokevirtual idx, 3)) (hN : b < G.2.1) (hc : c b = .inr (ci, fs)) (hcl : vwCl[ci]? = some (y.cls, T, N)) (hR : f0 + 1 ≤ rm.frames ∧ 8 + (nY + 11) + l0 ≤ rm.locals) (hW : (st.map fun v => v.category).sum ≤ 8) (hq : pc + 3 = q)
    (kk : ∀ (v : Int32) (c' : HP), Qn v c' → AW G K Q q L (.int v :: st) c') : AW G K Q pc L (a5 :: a4 :: a3 :: a2 :: a1 :: .ref (G.1 b) :: st) c :=
  A_callV (As := [a1, a2, a3, a4, a5]) X hM mv lk hN hc hcl hR rfl rfl hW d hq (fun r c' h => by obtain ⟨v, rfl, h⟩ := h; exact kk v c' h)
theorem A_V5v {b ci : Nat} {fs : List Value} {T : u_T} {N : Nat} {a1 a2 a3 a4 a5 : Value} {Qn : HP → Prop} (X : Fx l G K cc nL own ret rm) (hM : AMet l G y cy nY rY (rmR f0 l0) (.ref (G.1 b) :: [a1, a2, a3, a4, a5]) c (Qv Qn)) (mv : MV y cy nY rY 5) (lk : Cond.methodLink own idx y ∈ wsL_law) (d : decode cc pc = .ok (.invokevirtual idx, 3)) (hN : b < G.2.1) (hc : c b = .inr (ci, fs)) (hcl : vwCl[ci]? = some (y.cls, T, N)) (hR : f0 + 1 ≤ rm.frames ∧ 8 + (nY + 11) + l0 ≤ rm.locals) (hW : (st.map fun v => v.category).sum ≤ 8) (hq : pc + 3 = q)
    (kk : ∀ c' : HP, Qn c' → AW G K Q q L st c') : AW G K Q pc L (a5 :: a4 :: a3 :: a2 :: a1 :: .ref (G.1 b) :: st) c :=
  A_callV (As := [a1, a2, a3, a4, a5]) X hM mv lk hN hc hcl hR rfl rfl hW d hq (fun r c' h => by obtain ⟨rfl, h⟩ := h; exact kk c' h)
theorem A_V0l {b ci : Nat} {fs : List Value} {T : u_T} {N : Nat} {Qn : Int64 → HP → Prop} (X : Fx l G K cc nL own ret rm) (hM : AMet l G y cy nY rY (rmR f0 l0) (.ref (G.1 b) :: []) c (Ql Qn)) (mv : MV y cy nY rY 0) (lk : Cond.methodLink own idx y ∈ wsL_law) (d : decode cc pc = .ok (.invokevirtual idx, 3)) (hN : b < G.2.1) (hc : c b = .inr (ci, fs)) (hcl : vwCl[ci]? = some (y.cls, T, N)) (hR : f0 + 1 ≤ rm.frames ∧ 8 + (nY + 11) + l0 ≤ rm.locals) (hW : (st.map fun v => v.category).sum ≤ 8) (hq : pc + 3 = q)
    (kk : ∀ (v : Int64) (c' : HP), Qn v c' → AW G K Q q L (.long v :: st) c') : AW G K Q pc L (.ref (G.1 b) :: st) c :=
  A_callV (As := []) X hM mv lk hN hc hcl hR rfl rfl hW d hq (fun r c' h => by obtain ⟨v, rfl, h⟩ := h; exact kk v c' h)
theorem A_V1l {b ci : Nat} {fs : List Value} {T : u_T} {N : Nat} {a1 : Value} {Qn : Int64 → HP → Prop} (X : Fx l G K cc nL own ret rm) (hM : AMet l G y cy nY rY (rmR f0 l0) (.ref (G.1 b) :: [a1]) c (Ql Qn)) (mv : MV y cy nY rY 1) (lk : Cond.methodLink own idx y ∈ wsL_law) (d : decode cc pc = .ok (.invokevirtual idx, 3)) (hN : b < G.2.1) (hc : c b = .inr (ci, fs)) (hcl : vwCl[ci]? = some (y.cls, T, N)) (hR : f0 + 1 ≤ rm.frames ∧ 8 + (nY + 11) + l0 ≤ rm.locals) (hW : (st.map fun v => v.category).sum ≤ 8) (hq : pc + 3 = q)
    (kk : ∀ (v : Int64) (c' : HP), Qn v c' → AW G K Q q L (.long v :: st) c') : AW G K Q pc L (a1 :: .ref (G.1 b) :: st) c :=
  A_callV (As := [a1]) X hM mv lk hN hc hcl hR rfl rfl hW d hq (fun r c' h => by obtain ⟨v, rfl, h⟩ := h; exact kk v c' h)
theorem A_V1r {b ci : Nat} {fs : List Value} {T : u_T} {N : Nat} {a1 : Value} {Qn : Nat → HP → Prop} (X : Fx l G K cc nL own ret rm) (hM : AMet l G y cy nY rY (rmR f0 l0) (.ref (G.1 b) :: [a1]) c (Qr G Qn)) (mv : MV y cy nY rY 1) (lk : Cond.methodLink own idx y ∈ wsL_law) (d : decode cc pc = .ok (.invokevirtual idx, 3)) (hN : b < G.2.1) (hc : c b = .inr (ci, fs)) (hcl : vwCl[ci]? = some (y.cls, T, N)) (hR : f0 + 1 ≤ rm.frames ∧ 8 + (nY + 11) + l0 ≤ rm.locals) (hW : (st.map fun v => v.category).sum ≤ 8) (hq : pc + 3 = q)
    (kk : ∀ (k : Nat) (c' : HP), Qn k c' → AW G K Q q L (.ref (G.1 k) :: st) c') : AW G K Q pc L (a1 :: .ref (G.1 b) :: st) c :=
  A_callV (As := [a1]) X hM mv lk hN hc hcl hR rfl rfl hW d hq (fun r c' h => by obtain ⟨v, rfl, h⟩ := h; exact kk v c' h)
theorem A_S1i {a1 : Value} {Qn : Int32 → HP → Prop} (X : Fx l G K cc nL own ret rm) (hM : AMet l G y cy nY rY (rmR f0 l0) [a1] c (Qi Qn)) (mv : MS y cy nY rY 1) (lk : Cond.methodLink own idx y ∈ wsL_law) (d : decode cc pc = .ok (.invokestatic idx, 3)) (hR : f0 + 1 ≤ rm.frames ∧ 8 + (nY + 11) + l0 ≤ rm.locals) (hW : (st.map fun v => v.category).sum ≤ 8) (hq : pc + 3 = q)
    (kk : ∀ (v : Int32) (c' : HP), Qn v c' → AW G K Q q L (.int v :: st) c') : AW G K Q pc L (a1 :: st) c :=
  A_callS (As := [a1]) X hM mv lk hR rfl rfl hW d hq (fun r c' h => by obtain ⟨v, rfl, h⟩ := h; exact kk v c' h)
theorem A_S1v {a1 : Value} {Qn : HP → Prop} (X : Fx l G K cc nL own ret rm) (hM : AMet l G y cy nY rY (rmR f0 l0) [a1] c (Qv Qn)) (mv : MS y cy nY rY 1) (lk : Cond.methodLink own idx y ∈ wsL_law) (d : decode cc pc = .ok (.invokestatic idx, 3)) (hR : f0 + 1 ≤ rm.frames ∧ 8 + (nY + 11) + l0 ≤ rm.locals) (hW : (st.map fun v => v.category).sum ≤ 8) (hq : pc + 3 = q)
    (kk : ∀ c' : HP, Qn c' → AW G K Q q L st c') : AW G K Q pc L (a1 :: st) c :=
  A_callS (As := [a1]) X hM mv lk hR rfl rfl hW d hq (fun r c' h => by obtain ⟨rfl, h⟩ := h; exact kk c' h)
theorem A_S2i {a1 a2 : Value} {Qn : Int32 → HP → Prop} (X : Fx l G K cc nL own ret rm) (hM : AMet l G y cy nY rY (rmR f0 l0) [a1, a2] c (Qi Qn)) (mv : MS y cy nY rY 2) (lk : Cond.methodLink own idx y ∈ wsL_law) (d : decode cc pc = .ok (.invokestatic idx, 3)) (hR : f0 + 1 ≤ rm.frames ∧ 8 + (nY + 11) + l0 ≤ rm.locals) (hW : (st.map fun v => v.category).sum ≤ 8) (hq : pc + 3 = q)
    (kk : ∀ (v : Int32) (c' : HP), Qn v c' → AW G K Q q L (.int v :: st) c') : AW G K Q pc L (a2 :: a1 :: st) c :=
  A_callS (As := [a1, a2]) X hM mv lk hR rfl rfl hW d hq (fun r c' h => by obtain ⟨v, rfl, h⟩ := h; exact kk v c' h)
theorem A_S2v {a1 a2 : Value} {Qn : HP → Prop} (X : Fx l G K cc nL own ret rm) (hM : AMet l G y cy nY rY (rmR f0 l0) [a1, a2] c (Qv Qn)) (mv : MS y cy nY rY 2) (lk : Cond.methodLink own idx y ∈ wsL_law) (d : decode cc pc = .ok (.invokestatic idx, 3)) (hR : f0 + 1 ≤ rm.frames ∧ 8 + (nY + 11) + l0 ≤ rm.locals) (hW : (st.map fun v => v.category).sum ≤ 8) (hq : pc + 3 = q)
    (kk : ∀ c' : HP, Qn c' → AW G K Q q L st c') : AW G K Q pc L (a2 :: a1 :: st) c :=
  A_callS (As := [a1, a2]) X hM mv lk hR rfl rfl hW d hq (fun r c' h => by obtain ⟨rfl, h⟩ := h; exact kk c' h)
theorem A_S3i {a1 a2 a3 : Value} {Qn : Int32 → HP → Prop} (X : Fx l G K cc nL own ret rm) (hM : AMet l G y cy nY rY (rmR f0 l0) [a1, a2, a3] c (Qi Qn)) (mv : MS y cy nY rY 3) (lk : Cond.methodLink own idx y ∈ wsL_law) (d : decode cc pc = .ok (.invokestatic idx, 3)) (hR : f0 + 1 ≤ rm.frames ∧ 8 + (nY + 11) + l0 ≤ rm.locals) (hW : (st.map fun v => v.category).sum ≤ 8) (hq : pc + 3 = q)
    (kk : ∀ (v : Int32) (c' : HP), Qn v c' → AW G K Q q L (.int v :: st) c') : AW G K Q pc L (a3 :: a2 :: a1 :: st) c :=
  A_callS (As := [a1, a2, a3]) X hM mv lk hR rfl rfl hW d hq (fun r c' h => by obtain ⟨v, rfl, h⟩ := h; exact kk v c' h)
theorem A_S3v {a1 a2 a3 : Value} {Qn : HP → Prop} (X : Fx l G K cc nL own ret rm) (hM : AMet l G y cy nY rY (rmR f0 l0) [a1, a2, a3] c (Qv Qn)) (mv : MS y cy nY rY 3) (lk : Cond.methodLink own idx y ∈ wsL_law) (d : decode cc pc = .ok (.invokestatic idx, 3)) (hR : f0 + 1 ≤ rm.frames ∧ 8 + (nY + 11) + l0 ≤ rm.locals) (hW : (st.map fun v => v.category).sum ≤ 8) (hq : pc + 3 = q)
    (kk : ∀ c' : HP, Qn c' → AW G K Q q L st c') : AW G K Q pc L (a3 :: a2 :: a1 :: st) c :=
  A_callS (As := [a1, a2, a3]) X hM mv lk hR rfl rfl hW d hq (fun r c' h => by obtain ⟨rfl, h⟩ := h; exact kk c' h)
theorem A_S1l {a1 : Value} {Qn : Int64 → HP → Prop} (X : Fx l G K cc nL own ret rm) (hM : AMet l G y cy nY rY (rmR f0 l0) [a1] c (Ql Qn)) (mv : MS y cy nY rY 1) (lk : Cond.methodLink own idx y ∈ wsL_law) (d : decode cc pc = .ok (.invokestatic idx, 3)) (hR : f0 + 1 ≤ rm.frames ∧ 8 + (nY + 11) + l0 ≤ rm.locals) (hW : (st.map fun v => v.category).sum ≤ 8) (hq : pc + 3 = q)
    (kk : ∀ (v : Int64) (c' : HP), Qn v c' → AW G K Q q L (.long v :: st) c') : AW G K Q pc L (a1 :: st) c :=
  A_callS (As := [a1]) X hM mv lk hR rfl rfl hW d hq (fun r c' h => by obtain ⟨v, rfl, h⟩ := h; exact kk v c' h)
theorem A_S2l {a1 a2 : Value} {Qn : Int64 → HP → Prop} (X : Fx l G K cc nL own ret rm) (hM : AMet l G y cy nY rY (rmR f0 l0) [a1, a2] c (Ql Qn)) (mv : MS y cy nY rY 2) (lk : Cond.methodLink own idx y ∈ wsL_law) (d : decode cc pc = .ok (.invokestatic idx, 3)) (hR : f0 + 1 ≤ rm.frames ∧ 8 + (nY + 11) + l0 ≤ rm.locals) (hW : (st.map fun v => v.category).sum ≤ 8) (hq : pc + 3 = q)
    (kk : ∀ (v : Int64) (c' : HP), Qn v c' → AW G K Q q L (.long v :: st) c') : AW G K Q pc L (a2 :: a1 :: st) c :=
  A_callS (As := [a1, a2]) X hM mv lk hR rfl rfl hW d hq (fun r c' h => by obtain ⟨v, rfl, h⟩ := h; exact kk v c' h)
theorem A_N1i {a1 : Value} {Qn : Int32 → HP → Prop} (X : Fx l G K cc nL own ret rm) (hM : AMet l G y cy nY rY (rmR f0 l0) [a1] c (Qi Qn)) (mv : MS y cy nY rY 1) (lk : (own, idx, y) ∈ nsts) (d : decode cc pc = .ok (.invokestatic idx, 3)) (hR : f0 + 1 ≤ rm.frames ∧ 8 + (nY + 11) + l0 ≤ rm.locals) (hW : (st.map fun v => v.category).sum ≤ 8) (hq : pc + 3 = q)
    (kk : ∀ (v : Int32) (c' : HP), Qn v c' → AW G K Q q L (.int v :: st) c') : AW G K Q pc L (a1 :: st) c :=
  A_callN (As := [a1]) X hM mv lk hR rfl rfl hW d hq (fun r c' h => by obtain ⟨v, rfl, h⟩ := h; exact kk v c' h)
end AC
def mkArgs : List Value → List (Option Value)
  | [] => []
  | v :: vs => if v.category = 2 then some v :: none :: mkArgs vs else some v :: mkArgs vs
theorem mkArgs_get : ∀ (vs : List Value) (k i : Nat) (v : Value), mkL (mkArgs vs) i = some v → (k + i, v) ∈ lv_args k vs
  | [], k, i, v, h => by simp [mkL, mkArgs] at h
  | w :: vs, k, i, v, h => by
    unfold mkArgs at h
    unfold lv_args
    split at h
    · rename_i h2
      match i, h with
      | 0, h =>
        have : w = v := by simpa [mkL] using h
        subst this
        exact List.mem_cons_self
      | 1, h => simp [mkL] at h
      | i + 2, h =>
        have h3 := mkArgs_get vs (k + 2) i v (by simpa [mkL] using h)
        rw [if_pos h2, show k + (i + 2) = k + 2 + i by omega]
        exact List.mem_cons_of_mem _ h3
    · rename_i h2
      match i, h with
      | 0, h =>
        have : w = v := by simpa [mkL] using h
        subst this
        exact List.mem_cons_self
      | i + 1, h =>
        have h3 := mkArgs_get vs (k + 1) i v (by simpa [mkL] using h)
        rw [if_neg h2, show k + (i + 1) = k + 1 + i by omega]
        exact List.mem_cons_of_mem _ h3
theorem AMet.of {l : Launch} {G : Gm} {y : MethodName} {cc : ByteArray} {nL : Nat} {ret : Option FieldType} {rm : Room} {args : List Value} {c : HP} {Q : Option Value → HP → Prop} {vl : List (Option Value)} (hy : plainName y.cls = true) (hin : injG G) (hlen : (lg_sl args).length ≤ nL) (hv : mkArgs args = vl)
    (body : ∀ K : Cx, Fx l G K cc nL y.cls ret rm → AW G K Q 0 (mkL vl) [] c) : AMet l G y cc nL ret rm args c Q := by
  subst hv
  refine Met.ofW (cc := cc) (maxL := nL) (ret := ret) hy rfl ?_
  intro p e s m args1 below meth cd s₁ B hml hv
  obtain ⟨rfl, hP, hK, hns⟩ := hv
  have hts := atoms_spec (ws := Cond.code y cc nL ret :: wsL_law) B.pre
  have X : Fx l G (p, l, e, rm, s, m, args.toArray, below, meth, cd) cc nL y.cls ret rm := ⟨B.exec, B.bytes, hml, findClass_of_methodNamed B.named, fun w hw => hts w (List.mem_cons_of_mem _ hw), hK, hin, B.returns, B.notSynchronized, rfl, rfl, hns⟩
  have h := body _ X
  rw [lg_entry_eq]
  refine h s.heap [] _ hP va_S.rf ?_
  have hl := lv_entry args (n := nL) hlen
  exact ⟨lv_args 0 args, by rw [hml]; exact hl, fun i v hv => by have := mkArgs_get args 0 i v hv; rwa [Nat.zero_add] at this⟩

