/-! THE CLAIM OUT OF ONE WALK OF THE LAW'S BODY. Your part is whole_start (and what it stands on); all else here is the same for every law, but numbers. -/
def R_law : String := "SubstitutionMachineLaw"
def lw_P (b : Addr) (xs : List Int32) (args : Array Value) (s : State) : Prop := args = #[.ref b] ∧ s.IntsAt b xs ∧ xs.length ≤ 2048 ∧ (Jvm.Cond.and given_1 narrow_1).before args s = true
def lw_Q (_ : Array Value) (s : State) (o : Outcome) (t : State) : Prop := o = .returned (some (.int 1)) ∧ Framed s o t [] 600000 7302250
def lw_Z (below : List Frame) (a : Array Value) (s : State) : State → Prop := fun t => ∃ o, t.status = .running ∧ Ended t below o ∧ lw_Q a s o t
/-- the law's own end, with 1 on the stack, nothing written that was there before, its room as the claim has it -/
theorem lw_ret {p : Program} {l : Launch} {e : Env} {s : State} {m : MethodId} {below : List Frame} {meth : Method} {c : Code} {b : Nat} (hx : p.tables.exec = Jvm.exec) (hb : c.code = code) (hr : meth.sig.returnType = ret) (hlocks : meth.locks = false) {pc : Nat} {H : Heap} {ls : Array Slot} (hdg : decode code pc = .ok (.ireturn, 1)) : W p l e room_1 s m #[Value.ref b] below meth c H [] 600000 7302250 (lw_Z below #[Value.ref b] s) (F0 m pc ls [.int 1]) := by
  intro T hT X
  obtain ⟨fs, hret, hrun, hended, hW, hframe⟩ := X.leave (v := some (.int 1)) (hlocks := hlocks) (fun h => by rw [hr] at h; cases h)
  have hmeth' : T.vm.method? m = some meth := X.method'
  refine ⟨T.setFrames fs, ?_, .returned (some (.int 1)), hrun, hended, rfl, ⟨_, rfl⟩, hW, hframe⟩
  jvm_step X.here [X.here.top, hx, hb, hdg, hmeth', hr, ret, narrow_b1]
  (try refine ⟨rfl, ?_⟩); (try refine ⟨rfl, ?_⟩)
  first | (intro acts; rw [hret _ acts rfl rfl rfl]) | rw [hret _ _ rfl rfl rfl]
  exact Steps.refl _
/-- what holds at the law's entry: the machine, the code, the tables' words (any of lw_tbl by 'hts w (by decide +kernel)'), the script of L ints xs at the cell b, what the Statement gives of the start (any of its parts by flat_of_before) -/
def lw_At (p : Program) (s : State) (m : MethodId) (meth : Method) (c : Code) (b L : Nat) (xs : Nat → Int32) : Prop :=
  p.tables.exec = Jvm.exec ∧ c.code = code ∧ meth.sig.returnType = ret ∧ c.maxLocals = 4 ∧ s.vm.findClass R_law = some m.cls ∧ (∀ w ∈ lw_tbl, w.before #[Value.ref b] s = true) ∧ va_X b L xs s s.heap ∧ b < s.heap.size ∧ meth.locks = false ∧ (Jvm.Cond.and given_1 narrow_1).before #[Value.ref b] s = true

/-! THE LAW's layer: both objects stand, their cells are counted -/
def LW (G : Gm) (K : Cx) (pc : Nat) (L : Nat → Option Value) (st : List Value) (c : HP) : Prop :=
  match K with
  | (p, l, e, R, s, m, args, below, meth, cd) => ∀ (H : Heap) (locs : List Loc) (ls : Array Slot), va_P G.2.2.1 vwCl (layG G c) H → va_S (fun q => s.heap.size ≤ q) s.heap H locs → lvf ls cd.maxLocals L →
      W p l e R s m args below meth cd H locs 72 12537 (lw_Z below args s) (F0 m pc ls st)
def LX (l : Launch) (G : Gm) (K : Cx) (b nS : Nat) (xs : Nat → Int32) : Prop :=
  match K with
  | (p, l', _, R, s, m, args, _, meth, cd) => p.tables.exec = Jvm.exec ∧ cd.code = cL_law ∧ cd.maxLocals = 4 ∧ s.vm.findClass RL = some m.cls ∧ (∀ w ∈ wsL_law, w.before args s = true) ∧ va_K G.2.2.1 vwCl (tyG G) s ∧ injG G ∧ meth.sig.returnType = ret ∧ meth.locks = false ∧ R = room_1 ∧ l' = l ∧ (nsK s ∧ va_X b nS xs s s.heap ∧ b < s.heap.size ∧ args = #[Value.ref b] ∧ ∀ q, FA G q → s.heap.size ≤ q)
theorem LX.inj {l : Launch} {G : Gm} {K : Cx} {b nS : Nat} {xs : Nat → Int32} (X : LX l G K b nS xs) : injG G := by
  obtain ⟨p, l1, e, R, s, m, args, below, meth, cd⟩ := K
  exact X.2.2.2.2.2.2.1
section LL
variable {l : Launch} {G : Gm} {K : Cx} {b nS : Nat} {xs : Nat → Int32} {pc q : Nat} {L : Nat → Option Value} {st : List Value} {c : HP}
theorem LW.loc {l : List (Option Value)} (h : subL L 0 l) (k : LW G K pc (mkL l) st c) : LW G K pc L st c := by
  obtain ⟨p, l', e, R, s, m, args, below, meth, cd⟩ := K
  intro H locs ls hP hS hl
  obtain ⟨l2, h1, h2⟩ := hl
  exact k H locs ls hP hS ⟨l2, h1, fun i v hv => h2 i v (by have := subL_get _ 0 h i v hv; rwa [Nat.zero_add] at this)⟩
theorem L_iconst {n : Int} (X : LX l G K b nS xs) (d : decode cL_law pc = .ok (.iconst n, 1)) (hq : pc + 1 = q)
    (kk : LW G K q (L) (.int (zI n) :: st) c) : LW G K pc L (st) c := by
  subst hq
  obtain ⟨p, l1, e, R, s, m, args, below, meth, cd⟩ := K
  obtain ⟨hx, hb, hml, hown, hts, hK, hinj, hr, hlocks, hR, hl1, hns⟩ := X
  intro H locs ls hP hS hl
  exact lv_iconst hx hb d rfl (kk H locs ls hP hS hl)
theorem L_bipush {n : Int} (X : LX l G K b nS xs) (d : decode cL_law pc = .ok (.bipush n, 2)) (hv : (Int8.ofInt n).toInt32 = zI n) (hq : pc + 2 = q)
    (kk : LW G K q (L) (.int (zI n) :: st) c) : LW G K pc L (st) c := by
  subst hq
  obtain ⟨p, l1, e, R, s, m, args, below, meth, cd⟩ := K
  obtain ⟨hx, hb, hml, hown, hts, hK, hinj, hr, hlocks, hR, hl1, hns⟩ := X
  intro H locs ls hP hS hl
  exact lv_bipush hx hb d hv (kk H locs ls hP hS hl)
theorem L_iload_n {k : Fin 4} {x : Int32} (X : LX l G K b nS xs) (d : decode cL_law pc = .ok (.iload_n k, 1)) (h : L (k : Nat) = some (.int x)) (hq : pc + 1 = q)
    (kk : LW G K q (L) (.int x :: st) c) : LW G K pc L (st) c := by
  subst hq
  obtain ⟨p, l1, e, R, s, m, args, below, meth, cd⟩ := K
  obtain ⟨hx, hb, hml, hown, hts, hK, hinj, hr, hlocks, hR, hl1, hns⟩ := X
  intro H locs ls hP hS hl
  exact lv_iload_n hx hb d rfl (lvf_at hl h) (kk H locs ls hP hS hl)
theorem L_aload_n {k : Fin 4} {x : Nat} (X : LX l G K b nS xs) (d : decode cL_law pc = .ok (.aload_n k, 1)) (h : L (k : Nat) = some (.ref x)) (hq : pc + 1 = q)
    (kk : LW G K q (L) (.ref x :: st) c) : LW G K pc L (st) c := by
  subst hq
  obtain ⟨p, l1, e, R, s, m, args, below, meth, cd⟩ := K
  obtain ⟨hx, hb, hml, hown, hts, hK, hinj, hr, hlocks, hR, hl1, hns⟩ := X
  intro H locs ls hP hS hl
  exact lv_aload_n hx hb d rfl (lvf_at hl h) (kk H locs ls hP hS hl)
theorem L_iinc {i : Nat} {n z : Int} (X : LX l G K b nS xs) (d : decode cL_law pc = .ok (.iinc i n, 3)) (h : L i = some (.int (zI z))) (hn : i < 4) (hp : okP L i) (hq : pc + 3 = q)
    (kk : LW G K q (stL L i (.int (zI (z + n)))) (st) c) : LW G K pc L (st) c := by
  subst hq
  obtain ⟨p, l1, e, R, s, m, args, below, meth, cd⟩ := K
  obtain ⟨hx, hb, hml, hown, hts, hK, hinj, hr, hlocks, hR, hl1, hns⟩ := X
  intro H locs ls hP hS hl
  obtain ⟨l2, h1, h2⟩ := hl
  obtain ⟨k, hk⟩ := List.getElem?_of_mem (h2 i _ h)
  exact lv_iinc hx hb d h1 hk (v := zI (z + n)) (zI_add z n) (by rw [hml]; exact hn) rfl (fun ls' hl' => kk H locs ls' hP hS ⟨_, hl', lvf_st h2 hp⟩)
theorem L_iadd {x y : Int} (X : LX l G K b nS xs) (d : decode cL_law pc = .ok (.iadd, 1)) (hq : pc + 1 = q)
    (kk : LW G K q (L) (.int (zI (x + y)) :: st) c) : LW G K pc L (.int (zI y) :: .int (zI x) :: st) c := by
  subst hq
  obtain ⟨p, l1, e, R, s, m, args, below, meth, cd⟩ := K
  obtain ⟨hx, hb, hml, hown, hts, hK, hinj, hr, hlocks, hR, hl1, hns⟩ := X
  intro H locs ls hP hS hl
  exact lv_iadd hx hb d (by rw [zI_add]; exact kk H locs ls hP hS hl)
theorem L_isub {x y : Int} (X : LX l G K b nS xs) (d : decode cL_law pc = .ok (.isub, 1)) (hq : pc + 1 = q)
    (kk : LW G K q (L) (.int (zI (x - y)) :: st) c) : LW G K pc L (.int (zI y) :: .int (zI x) :: st) c := by
  subst hq
  obtain ⟨p, l1, e, R, s, m, args, below, meth, cd⟩ := K
  obtain ⟨hx, hb, hml, hown, hts, hK, hinj, hr, hlocks, hR, hl1, hns⟩ := X
  intro H locs ls hP hS hl
  exact lv_isub hx hb d (by rw [zI_sub]; exact kk H locs ls hP hS hl)
theorem L_iand {x y : Int32} (X : LX l G K b nS xs) (d : decode cL_law pc = .ok (.iand, 1)) (hq : pc + 1 = q)
    (kk : LW G K q (L) (.int (x &&& y) :: st) c) : LW G K pc L (.int y :: .int x :: st) c := by
  subst hq
  obtain ⟨p, l1, e, R, s, m, args, below, meth, cd⟩ := K
  obtain ⟨hx, hb, hml, hown, hts, hK, hinj, hr, hlocks, hR, hl1, hns⟩ := X
  intro H locs ls hP hS hl
  exact lv_iand hx hb d (kk H locs ls hP hS hl)
theorem L_i2l {x : Int32} (X : LX l G K b nS xs) (d : decode cL_law pc = .ok (.i2l, 1)) (hq : pc + 1 = q)
    (kk : LW G K q (L) (.long x.toInt64 :: st) c) : LW G K pc L (.int x :: st) c := by
  subst hq
  obtain ⟨p, l1, e, R, s, m, args, below, meth, cd⟩ := K
  obtain ⟨hx, hb, hml, hown, hts, hK, hinj, hr, hlocks, hR, hl1, hns⟩ := X
  intro H locs ls hP hS hl
  exact lv_i2l hx hb d rfl (kk H locs ls hP hS hl)
theorem L_land {x y : Int64} (X : LX l G K b nS xs) (d : decode cL_law pc = .ok (.land, 1)) (hq : pc + 1 = q)
    (kk : LW G K q (L) (.long (x &&& y) :: st) c) : LW G K pc L (.long y :: .long x :: st) c := by
  subst hq
  obtain ⟨p, l1, e, R, s, m, args, below, meth, cd⟩ := K
  obtain ⟨hx, hb, hml, hown, hts, hK, hinj, hr, hlocks, hR, hl1, hns⟩ := X
  intro H locs ls hP hS hl
  exact lv_land hx hb d (kk H locs ls hP hS hl)
theorem L_lor {x y : Int64} (X : LX l G K b nS xs) (d : decode cL_law pc = .ok (.lor, 1)) (hq : pc + 1 = q)
    (kk : LW G K q (L) (.long (x ||| y) :: st) c) : LW G K pc L (.long y :: .long x :: st) c := by
  subst hq
  obtain ⟨p, l1, e, R, s, m, args, below, meth, cd⟩ := K
  obtain ⟨hx, hb, hml, hown, hts, hK, hinj, hr, hlocks, hR, hl1, hns⟩ := X
  intro H locs ls hP hS hl
  exact lv_lor hx hb d (kk H locs ls hP hS hl)
theorem L_ldc2 {index : Nat} {v : Int64} (X : LX l G K b nS xs) (d : decode cL_law pc = .ok (.ldc2_w index, 3)) (hc : Cond.constantLong RL index v ∈ wsL_law) (hq : pc + 3 = q)
    (kk : LW G K q (L) (.long v :: st) c) : LW G K pc L (st) c := by
  subst hq
  obtain ⟨p, l1, e, R, s, m, args, below, meth, cd⟩ := K
  obtain ⟨hx, hb, hml, hown, hts, hK, hinj, hr, hlocks, hR, hl1, hns⟩ := X
  intro H locs ls hP hS hl
  exact lv_ldc2 hx hb hown (hts _ hc) d (kk H locs ls hP hS hl)
theorem L_lcmp {x y : Int64} (X : LX l G K b nS xs) (d : decode cL_law pc = .ok (.lcmp, 1)) (hq : pc + 1 = q)
    (kk : LW G K q (L) (.int (lg_cmp x y) :: st) c) : LW G K pc L (.long y :: .long x :: st) c := by
  subst hq
  obtain ⟨p, l1, e, R, s, m, args, below, meth, cd⟩ := K
  obtain ⟨hx, hb, hml, hown, hts, hK, hinj, hr, hlocks, hR, hl1, hns⟩ := X
  intro H locs ls hP hS hl
  exact W.lcmp hx hb d (kk H locs ls hP hS hl)
theorem L_if_eq {x : Int} {off : Int} {t : Nat} (X : LX l G K b nS xs) (d : decode cL_law pc = .ok (.ifCond .eq off, 3)) (h1 : rg x) (ht : (pc : Int) + off = (t : Int)) (hq : pc + 3 = q)
    (kt : x = 0 → LW G K t L st c) (kf : ¬ (x = 0) → LW G K q L st c) : LW G K pc L (.int (zI x) :: st) c := by
  subst hq
  obtain ⟨p, l1, e, R, s, m, args, below, meth, cd⟩ := K
  obtain ⟨hx, hb, hml, hown, hts, hK, hinj, hr, hlocks, hR, hl1, hns⟩ := X
  intro H locs ls hP hS hl
  refine lv_if_eq hx hb d ht (fun hh => kt ?_ H locs ls hP hS hl) (fun hh => kf ?_ H locs ls hP hS hl)
  · rw [zI_0, zI_eq h1 rg_0] at hh
    exact hh
  · rw [zI_0, zI_eq h1 rg_0] at hh
    exact hh
theorem L_icmp_gt {x y : Int} {off : Int} {t : Nat} (X : LX l G K b nS xs) (d : decode cL_law pc = .ok (.if_icmp .gt off, 3)) (h1 : rg x) (h2 : rg y) (ht : (pc : Int) + off = (t : Int)) (hq : pc + 3 = q)
    (kt : y < x → LW G K t L st c) (kf : ¬ (y < x) → LW G K q L st c) : LW G K pc L (.int (zI y) :: .int (zI x) :: st) c := by
  subst hq
  obtain ⟨p, l1, e, R, s, m, args, below, meth, cd⟩ := K
  obtain ⟨hx, hb, hml, hown, hts, hK, hinj, hr, hlocks, hR, hl1, hns⟩ := X
  intro H locs ls hP hS hl
  refine lv_icmp_gt hx hb d ht (fun hh => kt ?_ H locs ls hP hS hl) (fun hh => kf ?_ H locs ls hP hS hl)
  · rw [zI_lt h2 h1] at hh
    exact hh
  · rw [zI_lt h2 h1] at hh
    exact hh
theorem L_goto {off : Int} (X : LX l G K b nS xs) (d : decode cL_law pc = .ok (.goto off, 3)) (ht : (pc : Int) + off = (q : Int)) (kk : LW G K q L st c) : LW G K pc L st c := by
  obtain ⟨p, l1, e, R, s, m, args, below, meth, cd⟩ := K
  obtain ⟨hx, hb, hml, hown, hts, hK, hinj, hr, hlocks, hR, hl1, hns⟩ := X
  intro H locs ls hP hS hl
  exact lv_goto hx hb d ht (kk H locs ls hP hS hl)
theorem L_tableIn {dflt lo hi : Int} {offs : Array Int} {len : Nat} {x : Int} {off : Int} (X : LX l G K b nS xs) (d : decode cL_law pc = .ok (.tableswitch dflt lo hi offs, len)) (h0 : rg x) (h1 : lo ≤ x) (h2 : x ≤ hi) (ho : offs[(x - lo).toNat]? = some off) (ht : (pc : Int) + off = (q : Int)) (kk : LW G K q L st c) : LW G K pc L (.int (zI x) :: st) c := by
  obtain ⟨p, l1, e, R, s, m, args, below, meth, cd⟩ := K
  obtain ⟨hx, hb, hml, hown, hts, hK, hinj, hr, hlocks, hR, hl1, hns⟩ := X
  intro H locs ls hP hS hl
  exact lv_tableIn hx hb d (by rw [zI_toInt h0]; omega) (by rw [zI_toInt h0]; omega) (by rw [zI_toInt h0]; exact ho) ht (kk H locs ls hP hS hl)
theorem L_tableOut {dflt lo hi : Int} {offs : Array Int} {len : Nat} {x : Int} (X : LX l G K b nS xs) (d : decode cL_law pc = .ok (.tableswitch dflt lo hi offs, len)) (h0 : rg x) (h1 : x < lo ∨ hi < x) (ht : (pc : Int) + dflt = (q : Int)) (kk : LW G K q L st c) : LW G K pc L (.int (zI x) :: st) c := by
  obtain ⟨p, l1, e, R, s, m, args, below, meth, cd⟩ := K
  obtain ⟨hx, hb, hml, hown, hts, hK, hinj, hr, hlocks, hR, hl1, hns⟩ := X
  intro H locs ls hP hS hl
  exact lv_tableOut hx hb d (by rw [zI_toInt h0]; omega) ht (kk H locs ls hP hS hl)
theorem L_lshl {x : Int64} {y : Int32} (X : LX l G K b nS xs) (d : decode cL_law pc = .ok (.lshl, 1)) (hq : pc + 1 = q) (kk : LW G K q L (.long (x <<< (y.toInt64 &&& 63)) :: st) c) : LW G K pc L (.int y :: .long x :: st) c := by
  subst hq
  obtain ⟨p, l1, e, R, s, m, args, below, meth, cd⟩ := K
  obtain ⟨hx, hb, hml, hown, hts, hK, hinj, hr, hlocks, hR, hl1, hns⟩ := X
  intro H locs ls hP hS hl
  exact lv_lshl hx hb d rfl (kk H locs ls hP hS hl)
theorem L_sld {k : Nat} {z : Int} (X : LX l G K b nS xs) (d : decode cL_law pc = .ok (.iaload, 1)) (hz : z = ((k : Nat) : Int)) (hk : k < nS) (hn : nS < 2147483648) (hq : pc + 1 = q) (kk : LW G K q L (.int (zI (xs k).toInt) :: st) c) : LW G K pc L (.int (zI z) :: .ref b :: st) c := by
  subst hq
  obtain ⟨p, l1, e, R, s, m, args, below, meth, cd⟩ := K
  obtain ⟨hx, hb, hml, hown, hts, hK, hinj, hr, hlocks, hR, hl1, hns, hX, hbl, hargs, hFA⟩ := X
  intro H locs ls hP hS hl
  refine va_sld hx hb hX hbl (show ¬ s.heap.size ≤ b by omega) hS (zI_in hz hk hn) d ?_
  have e1 : (zI z).toNatClampNeg = k := by rw [hz]; exact zI_cl (by omega)
  have h9 := kk H locs ls hP hS hl
  rw [zI_of] at h9
  rw [e1]
  exact h9
theorem L_slen (X : LX l G K b nS xs) (d : decode cL_law pc = .ok (.arraylength, 1)) (hq : pc + 1 = q) (kk : LW G K q L (.int (zI ((nS : Nat) : Int)) :: st) c) : LW G K pc L (.ref b :: st) c := by
  subst hq
  obtain ⟨p, l1, e, R, s, m, args, below, meth, cd⟩ := K
  obtain ⟨hx, hb, hml, hown, hts, hK, hinj, hr, hlocks, hR, hl1, hns, hX, hbl, hargs, hFA⟩ := X
  intro H locs ls hP hS hl
  refine va_slen hx hb hX hbl (show ¬ s.heap.size ≤ b by omega) hS d ?_
  have h9 := kk H locs ls hP hS hl
  rw [← zI_nI] at h9
  exact h9
theorem L_same {v : Int32} {off : Int} {t : Nat} (X : LX l G K b nS xs) (d : decode cL_law pc = .ok (.if_icmp .eq off, 3)) (ht : (pc : Int) + off = (t : Int)) (kk : LW G K t L st c) : LW G K pc L (.int v :: .int v :: st) c := by
  obtain ⟨p, l1, e, R, s, m, args, below, meth, cd⟩ := K
  obtain ⟨hx, hb, hml, hown, hts, hK, hinj, hr, hlocks, hR, hl1, hns⟩ := X
  intro H locs ls hP hS hl
  exact lv_icmp_eq hx hb d ht (fun _ => kk H locs ls hP hS hl) (fun h => absurd rfl h)
theorem L_end (X : LX l G K b nS xs) (d : decode cL_law pc = .ok (.ireturn, 1)) : LW G K pc L [.int (zI 1)] c := by
  obtain ⟨p, l1, e, R, s, m, args, below, meth, cd⟩ := K
  obtain ⟨hx, hb, hml, hown, hts, hK, hinj, hr, hlocks, hR, hl1, hns, hX, hbl, hargs, hFA⟩ := X
  intro H locs ls hP hS hl
  subst hR
  subst hargs
  exact va_forget (fun q hq => hS.2.2 q hq) (W.widen (k := 600000) (n := 7302250) (Nat.le_of_ble_eq_true rfl) (Nat.le_of_ble_eq_true rfl) (lw_ret hx hb hr hlocks d))
variable {y : MethodName} {cy : ByteArray} {nY f0 l0 : Nat} {rY : Option FieldType} {idx : Nat} {Qm : Option Value → HP → Prop} {n : Nat}
theorem L_callV {h ci : Nat} {fs : List Value} {T : u_T} {N : Nat} {As rest st0 : List Value} (X : LX l G K b nS xs) (hM : AMet l G y cy nY rY (rmR f0 l0) (.ref (G.1 h) :: As) c Qm) (mv : MV y cy nY rY n) (lk : Cond.methodLink RL idx y ∈ wsL_law) (hN : h < G.2.1) (hc : c h = .inr (ci, fs)) (hcl : vwCl[ci]? = some (y.cls, T, N)) (hR : f0 + 1 ≤ room_1.frames ∧ 8 + (nY + 11) + l0 ≤ room_1.locals)
    (hn : As.length = n) (hst : st0 = As.reverse ++ .ref (G.1 h) :: rest) (hW : (rest.map fun v => v.category).sum ≤ 8) (d : decode cL_law pc = .ok (.invokevirtual idx, 3)) (hq : pc + 3 = q)
    (kk : ∀ (r : Option Value) (c' : HP), Qm r c' → LW G K q L (r.toList ++ rest) c') : LW G K pc L st0 c := by
  subst hq
  obtain ⟨p, l1, e, R, s, m, args, below, meth, cd⟩ := K
  obtain ⟨hx, hb, hml, hown, hts, hK, hinj, hr, hlocks, hR1, hl1, hns, hX, hbl, hargs, hFA⟩ := X
  subst hl1
  subst hR1
  obtain ⟨v1, v2, v3, v4, v5, v6, v7⟩ := mv
  intro H locs ls hP hS hl
  have hsz : ls.size = 4 := by obtain ⟨l2, g1, -⟩ := hl; rw [g1.1]; exact hml
  refine C_run (A := fun q => s.heap.size ≤ q) (va_runV (C := y.cls) (As := As) (b := G.1 h) (rest := rest) (Ts := wsL_law) (n := n) ⟨hx, hb, hml, hown, hts⟩ hM
    ⟨callB_of (rm := rmR f0 l0) (mc := 0) (ms := 0) n hts (gw_in v1) rfl rfl rfl (hts _ v2) (hts _ lk) ⟨v5, v6, v7⟩ hR, hts _ v3, hts _ v4⟩
    ⟨pre_blind, va_recv hK hP hcl (q0 := h) (by rw [layG_get hN, hc]), fun U hU hW => ⟨rfl, by rw [hU]; exact hP, va_K.moved hW.alike hK, hns.warm hW⟩⟩
    rfl hn hsz hst (lv_room hW) d ⟨Nat.le_of_ble_eq_true rfl, Nat.le_of_ble_eq_true rfl⟩) hS hFA (fun r c' H1 locs1 hq hP1 _ _ hS1 => kk r c' hq H1 locs1 ls hP1 hS1 hl)
theorem L_V0i {h ci : Nat} {fs : List Value} {T : u_T} {N : Nat} {Qn : Int32 → HP → Prop} (X : LX l G K b nS xs) (hM : AMet l G y cy nY rY (rmR f0 l0) (.ref (G.1 h) :: []) c (Qi Qn)) (mv : MV y cy nY rY 0) (lk : Cond.methodLink RL idx y ∈ wsL_law) (d : decode cL_law pc = .ok (.invokevirtual idx, 3)) (hN : h < G.2.1) (hc : c h = .inr (ci, fs)) (hcl : vwCl[ci]? = some (y.cls, T, N)) (hR : f0 + 1 ≤ room_1.frames ∧ 8 + (nY + 11) + l0 ≤ room_1.locals) (hW : (st.map fun v => v.category).sum ≤ 8) (hq : pc + 3 = q)
    (kk : ∀ (v : Int32) (c' : HP), Qn v c' → LW G K q L (.int v :: st) c') : LW G K pc L (.ref (G.1 h) :: st) c :=
  L_callV (As := []) X hM mv lk hN hc hcl hR rfl rfl hW d hq (fun r c' h => by obtain ⟨v, rfl, h⟩ := h; exact kk v c' h)
theorem L_V1i {h ci : Nat} {fs : List Value} {T : u_T} {N : Nat} {a1 : Value} {Qn : Int32 → HP → Prop} (X : LX l G K b nS xs) (hM : AMet l G y cy nY rY (rmR f0 l0) (.ref (G.1 h) :: [a1]) c (Qi Qn)) (mv : MV y cy nY rY 1) (lk : Cond.methodLink RL idx y ∈ wsL_law) (d : decode cL_law pc = .ok (.invokevirtual idx, 3)) (hN : h < G.2.1) (hc : c h = .inr (ci, fs)) (hcl : vwCl[ci]? = some (y.cls, T, N)) (hR : f0 + 1 ≤ room_1.frames ∧ 8 + (nY + 11) + l0 ≤ room_1.locals) (hW : (st.map fun v => v.category).sum ≤ 8) (hq : pc + 3 = q)
    (kk : ∀ (v : Int32) (c' : HP), Qn v c' → LW G K q L (.int v :: st) c') : LW G K pc L (a1 :: .ref (G.1 h) :: st) c :=
  L_callV (As := [a1]) X hM mv lk hN hc hcl hR rfl rfl hW d hq (fun r c' h => by obtain ⟨v, rfl, h⟩ := h; exact kk v c' h)
theorem L_V1l {h ci : Nat} {fs : List Value} {T : u_T} {N : Nat} {a1 : Value} {Qn : Int64 → HP → Prop} (X : LX l G K b nS xs) (hM : AMet l G y cy nY rY (rmR f0 l0) (.ref (G.1 h) :: [a1]) c (Ql Qn)) (mv : MV y cy nY rY 1) (lk : Cond.methodLink RL idx y ∈ wsL_law) (d : decode cL_law pc = .ok (.invokevirtual idx, 3)) (hN : h < G.2.1) (hc : c h = .inr (ci, fs)) (hcl : vwCl[ci]? = some (y.cls, T, N)) (hR : f0 + 1 ≤ room_1.frames ∧ 8 + (nY + 11) + l0 ≤ room_1.locals) (hW : (st.map fun v => v.category).sum ≤ 8) (hq : pc + 3 = q)
    (kk : ∀ (v : Int64) (c' : HP), Qn v c' → LW G K q L (.long v :: st) c') : LW G K pc L (a1 :: .ref (G.1 h) :: st) c :=
  L_callV (As := [a1]) X hM mv lk hN hc hcl hR rfl rfl hW d hq (fun r c' h => by obtain ⟨v, rfl, h⟩ := h; exact kk v c' h)
theorem L_V2i {h ci : Nat} {fs : List Value} {T : u_T} {N : Nat} {a1 a2 : Value} {Qn : Int32 → HP → Prop} (X : LX l G K b nS xs) (hM : AMet l G y cy nY rY (rmR f0 l0) (.ref (G.1 h) :: [a1, a2]) c (Qi Qn)) (mv : MV y cy nY rY 2) (lk : Cond.methodLink RL idx y ∈ wsL_law) (d : decode cL_law pc = .ok (.invokevirtual idx, 3)) (hN : h < G.2.1) (hc : c h = .inr (ci, fs)) (hcl : vwCl[ci]? = some (y.cls, T, N)) (hR : f0 + 1 ≤ room_1.frames ∧ 8 + (nY + 11) + l0 ≤ room_1.locals) (hW : (st.map fun v => v.category).sum ≤ 8) (hq : pc + 3 = q)
    (kk : ∀ (v : Int32) (c' : HP), Qn v c' → LW G K q L (.int v :: st) c') : LW G K pc L (a2 :: a1 :: .ref (G.1 h) :: st) c :=
  L_callV (As := [a1, a2]) X hM mv lk hN hc hcl hR rfl rfl hW d hq (fun r c' h => by obtain ⟨v, rfl, h⟩ := h; exact kk v c' h)
end LL
theorem WX_keep {G : Gm} {c c' : HP} {S : SS} (h : WX G c S) (e : ∀ k, k < 55 → c' k = c k) : WX G c' S := by
  obtain ⟨hN, h0, ⟨T1, hT1, eT1, z1⟩, hgd, ⟨T3, hT3⟩, ⟨T5, hT5⟩, ⟨T7, hT7, eT7, z7⟩, hg7, ⟨T9, hT9, eT9, z9⟩, hg9, ⟨n11, E11, D11, hO11⟩, hRd, ⟨P0, Q0, X0, ap0, pk0, hM⟩, hH, hX, hB⟩ := h
  exact ⟨hN, (e 0 (by decide)).trans h0, ⟨T1, hT1.keep (e 1 (by decide)) (e 2 (by decide)), eT1, z1⟩, hgd, ⟨T3, hT3.keep (e 3 (by decide)) (e 4 (by decide))⟩, ⟨T5, hT5.keep (e 5 (by decide)) (e 6 (by decide))⟩, ⟨T7, hT7.keep (e 7 (by decide)) (e 8 (by decide)), eT7, z7⟩, hg7, ⟨T9, hT9.keep (e 9 (by decide)) (e 10 (by decide)), eT9, z9⟩, hg9, ⟨n11, E11, D11, hO11.keep (e 11 (by decide)) (e 12 (by decide)) (e 13 (by decide))⟩, hRd.keep (fun k h1 h2 => e k (by omega)), ⟨P0, Q0, X0, ap0, pk0, hM.keep (fun k h1 h2 => e k (by omega))⟩, hH.keep (fun k h1 => e k (by omega)), hX.keep (e 36 (by decide)) (e 37 (by decide)), hB.keep (e 38 (by decide)) (e 39 (by decide)) (e 40 (by decide))⟩
theorem WM_keep {G : Gm} {c c' : HP} {S : SS} (h : WM G c S) (e : ∀ k, 55 ≤ k → c' k = c k) : WM G c' S := by
  obtain ⟨hN, ⟨th, tw, pk, h55, htw⟩, hX, hT, hgd, hR8, hR9, hO, hH, hV, hB, hSc, hWd⟩ := h
  exact ⟨hN, ⟨th, tw, pk, (e 55 (by decide)).trans h55, htw⟩, hX.keep (e 56 (by decide)), hT.keep (e 57 (by decide)), hgd, hR8.keep (e 58 (by decide)), hR9.keep (e 59 (by decide)), hO.keep (e 60 (by decide)), hH.keep (e 61 (by decide)), hV.keep (e 62 (by decide)) (e 63 (by decide)), hB.keep (e 64 (by decide)) (e 65 (by decide)), hSc.keep (e 66 (by decide)) (e 67 (by decide)) (e 68 (by decide)), hWd.keep (e 69 (by decide)) (e 70 (by decide)) (e 71 (by decide))⟩
theorem and31 (v : Int32) : ∃ k : Nat, k < 32 ∧ v &&& zI 31 = zI ((k : Nat) : Int) := by
  refine ⟨(v &&& zI 31).toBitVec.toNat, ?_, ?_⟩
  · have h : (v &&& zI 31).toBitVec.toNat = v.toBitVec.toNat &&& 31 := rfl
    rw [h]
    exact Nat.lt_succ_of_le Nat.and_le_right
  · rw [← zI_nI]
    apply Int32.toBitVec_inj.1
    show _ = BitVec.ofNat 32 _
    simp
