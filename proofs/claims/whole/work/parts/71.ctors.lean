/-! CONSTRUCTORS -/
def po6 (T : ClassId × ClassId × ClassId) (h : Nat) (w : va_W) : Prop := ∃ q : Nat, w = [(h, .inr (6, [.ref q, .int (zI 0), .int (zI 0)])), (q, zA T.1 200)]
def po4 (T : ClassId × ClassId × ClassId) (h : Nat) (w : va_W) : Prop := ∃ a b : Nat, w = [(h, .inr (4, [.ref a, .ref b, .int (zI 0)])), (a, zA T.1 200), (b, zA T.1 200)]
def po0 (T : ClassId × ClassId × ClassId) (h : Nat) (w : va_W) : Prop := ∃ a b c : Nat, w = [(h, .inr (0, [.ref a, .ref b, .ref c, .int (zI 0), .int (zI 0)])), (a, zA T.1 300), (b, zA T.1 300), (c, zA T.1 300)]
def po7 (T : ClassId × ClassId × ClassId) (h : Nat) (w : va_W) : Prop := ∃ a : Nat, w = [(h, .inr (7, [.ref a, .int (zI 0)])), (a, zA T.1 60)]
def po3 (T : ClassId × ClassId × ClassId) (h : Nat) (w : va_W) : Prop := ∃ a b : Nat, w = [(h, .inr (3, [.ref a, .ref b, .int (zI 0)])), (a, zA T.1 6), (b, zA T.1 6)]
def po5 (T : ClassId × ClassId × ClassId) (h : Nat) (w : va_W) : Prop := ∃ o a b p c d t q : Nat, w = [(h, .inr (5, [.ref o, .ref p, .ref t])), (o, .inr (4, [.ref a, .ref b, .int (zI 0)])), (a, zA T.1 200), (b, zA T.1 200), (p, .inr (4, [.ref c, .ref d, .int (zI 0)])), (c, zA T.1 200), (d, zA T.1 200), (t, .inr (6, [.ref q, .int (zI 0), .int (zI 0)])), (q, zA T.1 200)]
def po2 (T : ClassId × ClassId × ClassId) (h : Nat) (w : va_W) : Prop := ∃ o a b c p d e f q : Nat, w = [(h, .inr (2, [.ref o, .ref p, .ref q, .int (zI 0)])), (o, .inr (0, [.ref a, .ref b, .ref c, .int (zI 0), .int (zI 0)])), (a, zA T.1 300), (b, zA T.1 300), (c, zA T.1 300), (p, .inr (0, [.ref d, .ref e, .ref f, .int (zI 0), .int (zI 0)])), (d, zA T.1 300), (e, zA T.1 300), (f, zA T.1 300), (q, zA T.1 5)]
def po1 (T : ClassId × ClassId × ClassId) (h : Nat) (w : va_W) : Prop := ∃ (a b : Nat) (r : Nat → Nat), w = [(h, .inr (1, [.ref a, .ref b, .int (zI 0), .int (zI 0)])), (a, .inl (T.2.2, 14, .inr (.inr (.inr (.inr (fun i => if i < 14 then some (r i) else none))))))] ++ (List.range 14).map (fun i => (r i, zA T.1 200)) ++ [(b, zA T.1 14)]
def w8 (T : ClassId × ClassId × ClassId) (a r : Nat → Nat) (F : Nat → Int) : va_W := [(a 0, .inr (8, [.ref (a 1), .ref (a 3), .ref (a 5), .ref (a 7), .ref (a 9), .ref (a 11), .ref (a 14), .ref (a 23), .ref (a 33), .ref (a 50), .ref (a 52), .long 0])), (a 1, .inr (6, [.ref (a 2), .int (zI 1), .int (zI 0)])), (a 2, .inl (T.1, 200, .inl (fun k => zI (F k)))), (a 3, .inr (6, [.ref (a 4), .int (zI 0), .int (zI 0)])), (a 4, zA T.1 200), (a 5, .inr (6, [.ref (a 6), .int (zI 0), .int (zI 0)])), (a 6, zA T.1 200), (a 7, .inr (6, [.ref (a 8), .int (zI 0), .int (zI 0)])), (a 8, zA T.1 200), (a 9, .inr (6, [.ref (a 10), .int (zI 0), .int (zI 0)])), (a 10, zA T.1 200), (a 11, .inr (4, [.ref (a 12), .ref (a 13), .int (zI 0)])), (a 12, zA T.1 200), (a 13, zA T.1 200), (a 14, .inr (5, [.ref (a 15), .ref (a 18), .ref (a 21)])), (a 15, .inr (4, [.ref (a 16), .ref (a 17), .int (zI 0)])), (a 16, zA T.1 200), (a 17, zA T.1 200), (a 18, .inr (4, [.ref (a 19), .ref (a 20), .int (zI 0)])), (a 19, zA T.1 200), (a 20, zA T.1 200), (a 21, .inr (6, [.ref (a 22), .int (zI 0), .int (zI 0)])), (a 22, zA T.1 200), (a 23, .inr (2, [.ref (a 24), .ref (a 28), .ref (a 32), .int (zI 0)])), (a 24, .inr (0, [.ref (a 25), .ref (a 26), .ref (a 27), .int (zI 0), .int (zI 0)])), (a 25, zA T.1 300), (a 26, zA T.1 300), (a 27, zA T.1 300), (a 28, .inr (0, [.ref (a 29), .ref (a 30), .ref (a 31), .int (zI 0), .int (zI 0)])), (a 29, zA T.1 300), (a 30, zA T.1 300), (a 31, zA T.1 300), (a 32, zA T.1 5), (a 33, .inr (1, [.ref (a 34), .ref (a 49), .int (zI 0), .int (zI 0)])), (a 34, .inl (T.2.2, 14, .inr (.inr (.inr (.inr (fun i => if i < 14 then some (r i) else none)))))), (r 0, zA T.1 200), (r 1, zA T.1 200), (r 2, zA T.1 200), (r 3, zA T.1 200), (r 4, zA T.1 200), (r 5, zA T.1 200), (r 6, zA T.1 200), (r 7, zA T.1 200), (r 8, zA T.1 200), (r 9, zA T.1 200), (r 10, zA T.1 200), (r 11, zA T.1 200), (r 12, zA T.1 200), (r 13, zA T.1 200), (a 49, zA T.1 14), (a 50, .inr (7, [.ref (a 51), .int (zI 0)])), (a 51, zA T.1 60), (a 52, .inr (3, [.ref (a 53), .ref (a 54), .int (zI 0)])), (a 53, zA T.1 6), (a 54, zA T.1 6)]
def po8 (T : ClassId × ClassId × ClassId) (h : Nat) (w : va_W) : Prop := ∃ (a r : Nat → Nat) (F : Nat → Int), a 0 = h ∧ F 0 = 0 ∧ w = w8 T a r F
def w9 (T : ClassId × ClassId × ClassId) (a : Nat → Nat) : va_W := [(a 0, .inr (9, [.int (zI 0), .ref (a 1), .int (zI 0), .ref (a 2), .ref (a 3), .ref (a 4), .ref (a 5), .ref (a 6), .int (zI 0), .ref (a 7), .ref (a 8), .int (zI 0), .ref (a 9), .ref (a 10), .long 0, .ref (a 11), .ref (a 12), .ref (a 13), .ref (a 14), .ref (a 15), .int (zI 0), .ref (a 16), .int (zI 0)])), (a 1, zA T.1 60), (a 2, .inl (T.1, 201, .inl (upd (fun _ => (0 : Int32)) 200 (zI 1)))), (a 3, zA T.1 201), (a 4, zA T.1 201), (a 5, zA T.1 201), (a 6, zA T.1 2814), (a 7, zA T.1 402), (a 8, zA T.2.1 2), (a 9, zA T.1 6), (a 10, zA T.1 6), (a 11, zA T.1 201), (a 12, zA T.1 201), (a 13, zA T.2.1 201), (a 14, zA T.1 321), (a 15, zA T.1 321), (a 16, zA T.1 5)]
def po9 (T : ClassId × ClassId × ClassId) (h : Nat) (w : va_W) : Prop := ∃ a : Nat → Nat, a 0 = h ∧ w = w9 T a
theorem C_run {l : Launch} {G : Gm} {A : Nat → Prop} {cells slots pc : Nat} {p : Program} {e : Env} {R : Room} {s : State} {m : MethodId} {args : Array Value} {below : List Frame} {meth : Method} {cd : Code} {H : Heap} {locs : List Loc} {ls : Array Slot} {st0 rest : List Value} {Qm : Option Value → HP → Prop} {a : Array Value} {QQ : State → Prop}
    (hr : va_Run p l e R s m args below meth cd H locs cells slots 0 0 (F0 m pc ls st0) rest (PQ G Qm a) (FA G)) (hS : va_S A s.heap H locs) (hFA : ∀ q, FA G q → A q)
    (kk : ∀ (r : Option Value) (c' : HP) (H1 : Heap) (locs1 : List Loc), Qm r c' → va_P G.2.2.1 vwCl (layG G c') H1 → H.size ≤ H1.size → (∀ q : Nat, q < H.size → ¬ FA G q → H1[q]? = H[q]?) → va_S A s.heap H1 locs1 → W p l e R s m args below meth cd H1 locs1 cells slots QQ (F0 m (pc + 3) ls (r.toList ++ rest))) :
    W p l e R s m args below meth cd H locs cells slots QQ (F0 m pc ls st0) := by
  intro T hT X
  obtain ⟨v, st₀, t, T', L1, h0, X', hL, e1, e2, ⟨r, c', hv, hq, hp, hz, hk⟩, st1⟩ := hr T hT X
  cases hv
  rw [h0] at hz hk
  obtain ⟨t2, a1, b1⟩ := kk v c' T'.heap (locs ++ L1) hq (by rw [e1]; exact hp) (by rw [e1]; exact hz) (fun q h1 h2 => by rw [e1]; exact hk q h1 h2)
    ⟨Nat.le_trans hS.1 (by rw [e1]; exact hz), fun q h1 h2 => by rw [e1, hk q (Nat.lt_of_lt_of_le h1 hS.1) (fun z => h2 (hFA q z))]; exact hS.2.1 q h1 h2, fun q hq => by
      rcases List.mem_append.mp hq with h | h
      · exact hS.2.2 q h
      · exact hFA _ (hL q h)⟩ T' rfl X'
  exact ⟨t2, st1 t2 a1, b1⟩
set_option maxHeartbeats 4000000 in
theorem K_add {l : Launch} {D : va_G} {T : ClassId × ClassId × ClassId} {A : Nat → Prop} {K : Cx} {cc : ByteArray} {own : String} {rm : Room} {Q : State → Prop} {cells slots pc q h0 a1 a2 idx : Nat} {r : va_W} {x0 : Nat × va_E} (X : KX l D T A K cc own rm) (lk : Cond.methodLink own idx yX6_add ∈ wsL_law) (d : decode cc pc = .ok (.invokevirtual idx, 3)) (hR2 : 0 + 1 ≤ rm.frames ∧ 8 + (2 + 11) + 0 ≤ rm.locals) (hcs : cells ≤ rm.cells ∧ slots ≤ rm.slots) (hq : pc + 3 = q)
    (kk : ∀ F : Nat → Int, F 0 = 0 → KW D A K Q cells slots q h0 [] (x0 :: (a1, .inr (6, [.ref a2, .int (zI 1), .int (zI 0)])) :: (a2, .inl (T.1, 200, .inl (fun k => zI (F k)))) :: r)) : KW D A K Q cells slots pc h0 [.int (zI 0), .ref a1] (x0 :: (a1, .inr (6, [.ref a2, .int (zI 0), .int (zI 0)])) :: (a2, zA T.1 200) :: r) := by
  subst hq
  obtain ⟨p, l1, e, R, s, m, args, below, meth, cd⟩ := K
  obtain ⟨hx, hb, hml, hown, hts, hK, hr, hlocks, hin, hR, hl1, hns, hao, hA⟩ := X
  intro H locs ls hP hD hS hl
  subst hR
  subst hl1
  have hne : a1 ≠ a2 := fun e9 => absurd (hD.1 1 2 _ _ rfl rfl e9) (by decide)
  obtain ⟨G, eG⟩ : ∃ G : Gm, G = (fun k => if k = 0 then a1 else a2, 2, D, T.1, T.2.1, T.2.2) := ⟨_, rfl⟩
  obtain ⟨c0, ec⟩ : ∃ c0 : HP, c0 = (fun k => if k = 0 then .inr (6, [.ref a2, .int (zI 0), .int (zI 0)]) else zA T.1 200) := ⟨_, rfl⟩
  have g0 : G.1 0 = a1 := by rw [eG]; rfl
  have g1 : G.1 1 = a2 := by rw [eG]; rfl
  have gn : G.2.1 = 2 := by rw [eG]
  have gD : G.2.2 = (D, T.1, T.2.1, T.2.2) := by rw [eG]
  have hG : injG G := fun i j hi hj hij => by
    rw [gn] at hi hj
    rcases (show i = 0 ∨ i = 1 by omega) with rfl | rfl <;> rcases (show j = 0 ∨ j = 1 by omega) with rfl | rfl
    · rfl
    · rw [g0, g1] at hij; exact absurd hij hne
    · rw [g0, g1] at hij; exact absurd hij.symm hne
    · rfl
  have hlay : ∀ c : HP, layG G c = [(a1, c 0), (a2, c 1)] := fun c => by
    unfold layG
    rw [gn]
    show [(G.1 0, c 0), (G.1 1, c 1)] = _
    rw [g0, g1]
  have hT : Tm G c0 0 1 ([], 0) := by
    refine ⟨by omega, by omega, by decide, by decide, Or.inl rfl, by rw [g1, ec]; rfl, fun _ => 0, by rw [ec]; show zA T.1 200 = .inl (G.2.2.2.1, 200, .inl (fun _ => zI 0)); rw [gD]; rfl, fun k hk => absurd hk (Nat.not_lt_zero _)⟩
  have hM := c_X6_add (l := l1) (t := 0) hG hT
  rw [g0] at hM
  have hFA : ∀ z, FA G z → z = a1 ∨ z = a2 := fun z hz => by
    obtain ⟨k, hk, rfl⟩ := hz
    rw [gn] at hk
    rcases (show k = 0 ∨ k = 1 by omega) with rfl | rfl
    · exact Or.inl g0
    · exact Or.inr g1
  have hPc : va_P G.2.2.1 vwCl (layG G c0) H := by
    rw [hlay, gD, ec]
    exact hP.sub [1, 2] rfl
  have hKc : va_K G.2.2.1 vwCl (tyG G) s := by
    show va_K G.2.2.1 vwCl [(G.2.2.2.1, .int), (G.2.2.2.2.1, .boolean), (G.2.2.2.2.2, .array .int)] s
    rw [gD]; exact hK
  obtain ⟨v1, v2, v3, v4, v5, v6, v7⟩ := mX6_add
  refine C_run (A := A) (va_runV (C := yX6_add.cls) (As := [.int (zI 0)]) (b := a1) (rest := []) (Ts := wsL_law) (n := 1) ⟨hx, hb, hml, hown, hts⟩ hM
    ⟨callB_of (rm := rmR 0 0) (mc := 0) (ms := 0) 1 hts (gw_in v1) rfl rfl rfl (hts _ v2) (hts _ lk) ⟨v5, v6, v7⟩ hR2, hts _ v3, hts _ v4⟩
    ⟨pre_blind, va_recv hK hP (ci := 6) rfl (q0 := 1) rfl, fun U hU hW => ⟨rfl, by rw [hU]; exact hPc, va_K.moved hW.alike hKc, hns.warm hW⟩⟩
    rfl rfl hl.1 rfl (lv_room (Nat.le_of_ble_eq_true rfl)) d ⟨by show cells + 0 ≤ R.cells; exact hcs.1, by show slots + 0 ≤ R.slots; exact hcs.2⟩) hS (fun z hz => ?_) (fun v c' H1 locs1 hq9 hP1 hz1 hk1 hS1 => ?_)
  · rcases hFA z hz with e9 | e9
    · rw [e9]; exact hD.2 1 _ rfl
    · rw [e9]; exact hD.2 2 _ rfl
  · obtain ⟨rfl, hT2, -⟩ := hq9
    obtain ⟨-, -, -, -, -, h6, F, h7, h8⟩ := hT2
    have et : tAdd ([], 0) 0 = ([0], 0) := rfl
    rw [et] at h6 h8
    refine kk F (h8 0 (by decide)) H1 locs1 ls ?_ ?_ hS1 hl
    · rw [hlay, gD] at hP1
      have n0 : ∀ (k : Nat) (z : Nat × va_E), (x0 :: (a1, .inr (6, [.ref a2, .int (zI 0), .int (zI 0)])) :: (a2, zA T.1 200) :: r)[k]? = some z → k ≠ 1 → k ≠ 2 → va_at D vwCl z H1 := fun k z hz k1 k2 => (hP k z hz).kept (hk1 _ (hP k z hz).lt (fun f9 => by
        rcases hFA _ f9 with e9 | e9
        · exact k1 (hD.1 k 1 z _ hz rfl e9)
        · exact k2 (hD.1 k 2 z _ hz rfl e9)))
      intro k z hz
      match k, hz with
      | 0, hz => exact n0 0 z hz (by decide) (by decide)
      | 1, hz =>
        cases hz
        have h9 := hP1 0 _ rfl
        rw [h6, g1] at h9
        exact h9
      | 2, hz =>
        cases hz
        have h9 := hP1 1 _ rfl
        rw [h7] at h9
        have e9 : aI G 200 F = (.inl (T.1, 200, .inl (fun k => zI (F k))) : va_E) := by subst eG; rfl
        rw [e9] at h9
        exact h9
      | k + 3, hz => exact n0 (k + 3) z hz (by omega) (by omega)
    · exact va_D.set (p := 2) (e := .inl (T.1, 200, .inl (fun k => zI (F k)))) (va_D.set (p := 1) (e := .inr (6, [.ref a2, .int (zI 1), .int (zI 0)])) hD rfl) rfl
set_option maxRecDepth 100000 in
set_option maxHeartbeats 4000000 in
theorem c_X0_init {l : Launch} {D : va_G} {T : ClassId × ClassId × ClassId} : KMet l D T yX0_init cX0_init { frames := 1, cells := 3, slots := 900, locals := 20 } 0 [.null, .null, .null, .int (zI 0), .int (zI 0)] (po0 T) 3 900 := by
  refine KMet.of (by decide) rfl ?_
  intro K h0 A Q X hret
  have X : KX l D T A K cX0_init RX0 { frames := 1, cells := 3, slots := 900, locals := 20 } := X
  refine K_aload (q := 1) X dX0_init_0 rfl ?_
  refine K_obj (q := 4) X dX0_init_1 kX0_3 (Nat.le_of_ble_eq_true rfl) (Nat.le_of_ble_eq_true rfl) rfl ?_
  refine K_aload (q := 5) X dX0_init_4 rfl ?_
  refine K_sipush (q := 8) X dX0_init_5 (by decide) rfl ?_
  refine K_newI (q := 10) (N := 300) X dX0_init_8 (by decide) (by decide) (Nat.le_of_ble_eq_true rfl) (Nat.le_of_ble_eq_true rfl) (Nat.le_of_ble_eq_true rfl) rfl (fun a1 => ?_)
  refine K_putF (q := 13) X ffX0_9 dX0_init_10 (Nat.le_of_ble_eq_true rfl) rfl rfl rfl ?_
  refine K_aload (q := 14) X dX0_init_13 rfl ?_
  refine K_sipush (q := 17) X dX0_init_14 (by decide) rfl ?_
  refine K_newI (q := 19) (N := 300) X dX0_init_17 (by decide) (by decide) (Nat.le_of_ble_eq_true rfl) (Nat.le_of_ble_eq_true rfl) (Nat.le_of_ble_eq_true rfl) rfl (fun a2 => ?_)
  refine K_putF (q := 22) X ffX0_15 dX0_init_19 (Nat.le_of_ble_eq_true rfl) rfl rfl rfl ?_
  refine K_aload (q := 23) X dX0_init_22 rfl ?_
  refine K_sipush (q := 26) X dX0_init_23 (by decide) rfl ?_
  refine K_newI (q := 28) (N := 300) X dX0_init_26 (by decide) (by decide) (Nat.le_of_ble_eq_true rfl) (Nat.le_of_ble_eq_true rfl) (Nat.le_of_ble_eq_true rfl) rfl (fun a3 => ?_)
  refine K_putF (q := 31) X ffX0_18 dX0_init_28 (Nat.le_of_ble_eq_true rfl) rfl rfl rfl ?_
  refine K_aload (q := 32) X dX0_init_31 rfl ?_
  refine K_iconst (q := 33) X dX0_init_32 rfl ?_
  refine K_put (q := 36) X pX0_21 dX0_init_33 (Nat.le_of_ble_eq_true rfl) rfl rfl rfl ?_
  refine K_aload (q := 37) X dX0_init_36 rfl ?_
  refine K_iconst (q := 38) X dX0_init_37 rfl ?_
  refine K_put (q := 41) X pX0_25 dX0_init_38 (Nat.le_of_ble_eq_true rfl) (by decide) (by decide) rfl ?_
  exact hret _ _ dX0_init_41 ⟨a1, a2, a3, rfl⟩
set_option maxRecDepth 100000 in
set_option maxHeartbeats 4000000 in
theorem c_X1_init {l : Launch} {D : va_G} {T : ClassId × ClassId × ClassId} : KMet l D T yX1_init cX1_init { frames := 1, cells := 16, slots := 2828, locals := 20 } 1 [.null, .null, .int (zI 0), .int (zI 0)] (po1 T) 16 2828 := by
  refine KMet.of (by decide) rfl ?_
  intro K h0 A Q X hret
  have X : KX l D T A K cX1_init RX1 { frames := 1, cells := 16, slots := 2828, locals := 20 } := X
  refine K_aload (q := 1) X dX1_init_0 rfl ?_
  refine K_obj (q := 4) X dX1_init_1 kX1_3 (Nat.le_of_ble_eq_true rfl) (Nat.le_of_ble_eq_true rfl) rfl ?_
  refine K_aload (q := 5) X dX1_init_4 rfl ?_
  refine K_bipush (q := 7) X dX1_init_5 (by decide) rfl ?_
  refine K_sipush (q := 10) X dX1_init_7 (by decide) rfl ?_
  refine K_mna (q := 14) X q_ll dX1_init_10 (Nat.le_of_ble_eq_true rfl) (Nat.le_of_ble_eq_true rfl) rfl (fun a1 r1 => ?_)
  refine K_putF (q := 17) X ffX1_11 dX1_init_14 (Nat.le_of_ble_eq_true rfl) rfl rfl rfl ?_
  refine K_aload (q := 18) X dX1_init_17 rfl ?_
  refine K_bipush (q := 20) X dX1_init_18 (by decide) rfl ?_
  refine K_newI (q := 22) (N := 14) X dX1_init_20 (by decide) (by decide) (Nat.le_of_ble_eq_true rfl) (Nat.le_of_ble_eq_true rfl) (Nat.le_of_ble_eq_true rfl) rfl (fun a2 => ?_)
  refine K_putF (q := 25) X ffX1_16 dX1_init_22 (Nat.le_of_ble_eq_true rfl) rfl rfl rfl ?_
  refine K_aload (q := 26) X dX1_init_25 rfl ?_
  refine K_iconst (q := 27) X dX1_init_26 rfl ?_
  refine K_put (q := 30) X pX1_20 dX1_init_27 (Nat.le_of_ble_eq_true rfl) rfl rfl rfl ?_
  refine K_aload (q := 31) X dX1_init_30 rfl ?_
  refine K_iconst (q := 32) X dX1_init_31 rfl ?_
  refine K_put (q := 35) X pX1_24 dX1_init_32 (Nat.le_of_ble_eq_true rfl) rfl rfl rfl ?_
  exact hret _ _ dX1_init_35 ⟨a1, a2, r1, rfl⟩
set_option maxRecDepth 100000 in
set_option maxHeartbeats 4000000 in
theorem c_X3_init {l : Launch} {D : va_G} {T : ClassId × ClassId × ClassId} : KMet l D T yX3_init cX3_init { frames := 1, cells := 2, slots := 12, locals := 20 } 3 [.null, .null, .int (zI 0)] (po3 T) 2 12 := by
  refine KMet.of (by decide) rfl ?_
  intro K h0 A Q X hret
  have X : KX l D T A K cX3_init RX3 { frames := 1, cells := 2, slots := 12, locals := 20 } := X
  refine K_aload (q := 1) X dX3_init_0 rfl ?_
  refine K_obj (q := 4) X dX3_init_1 kX3_3 (Nat.le_of_ble_eq_true rfl) (Nat.le_of_ble_eq_true rfl) rfl ?_
  refine K_aload (q := 5) X dX3_init_4 rfl ?_
  refine K_bipush (q := 7) X dX3_init_5 (by decide) rfl ?_
  refine K_newI (q := 9) (N := 6) X dX3_init_7 (by decide) (by decide) (Nat.le_of_ble_eq_true rfl) (Nat.le_of_ble_eq_true rfl) (Nat.le_of_ble_eq_true rfl) rfl (fun a1 => ?_)
  refine K_putF (q := 12) X ffX3_9 dX3_init_9 (Nat.le_of_ble_eq_true rfl) rfl rfl rfl ?_
  refine K_aload (q := 13) X dX3_init_12 rfl ?_
  refine K_bipush (q := 15) X dX3_init_13 (by decide) rfl ?_
  refine K_newI (q := 17) (N := 6) X dX3_init_15 (by decide) (by decide) (Nat.le_of_ble_eq_true rfl) (Nat.le_of_ble_eq_true rfl) (Nat.le_of_ble_eq_true rfl) rfl (fun a2 => ?_)
  refine K_putF (q := 20) X ffX3_15 dX3_init_17 (Nat.le_of_ble_eq_true rfl) rfl rfl rfl ?_
  refine K_aload (q := 21) X dX3_init_20 rfl ?_
  refine K_iconst (q := 22) X dX3_init_21 rfl ?_
  refine K_put (q := 25) X pX3_18 dX3_init_22 (Nat.le_of_ble_eq_true rfl) rfl rfl rfl ?_
  exact hret _ _ dX3_init_25 ⟨a1, a2, rfl⟩
set_option maxRecDepth 100000 in
set_option maxHeartbeats 4000000 in
theorem c_X4_init {l : Launch} {D : va_G} {T : ClassId × ClassId × ClassId} : KMet l D T yX4_init cX4_init { frames := 1, cells := 2, slots := 400, locals := 20 } 4 [.null, .null, .int (zI 0)] (po4 T) 2 400 := by
  refine KMet.of (by decide) rfl ?_
  intro K h0 A Q X hret
  have X : KX l D T A K cX4_init RX4 { frames := 1, cells := 2, slots := 400, locals := 20 } := X
  refine K_aload (q := 1) X dX4_init_0 rfl ?_
  refine K_obj (q := 4) X dX4_init_1 kX4_3 (Nat.le_of_ble_eq_true rfl) (Nat.le_of_ble_eq_true rfl) rfl ?_
  refine K_aload (q := 5) X dX4_init_4 rfl ?_
  refine K_sipush (q := 8) X dX4_init_5 (by decide) rfl ?_
  refine K_newI (q := 10) (N := 200) X dX4_init_8 (by decide) (by decide) (Nat.le_of_ble_eq_true rfl) (Nat.le_of_ble_eq_true rfl) (Nat.le_of_ble_eq_true rfl) rfl (fun a1 => ?_)
  refine K_putF (q := 13) X ffX4_9 dX4_init_10 (Nat.le_of_ble_eq_true rfl) rfl rfl rfl ?_
  refine K_aload (q := 14) X dX4_init_13 rfl ?_
  refine K_sipush (q := 17) X dX4_init_14 (by decide) rfl ?_
  refine K_newI (q := 19) (N := 200) X dX4_init_17 (by decide) (by decide) (Nat.le_of_ble_eq_true rfl) (Nat.le_of_ble_eq_true rfl) (Nat.le_of_ble_eq_true rfl) rfl (fun a2 => ?_)
  refine K_putF (q := 22) X ffX4_15 dX4_init_19 (Nat.le_of_ble_eq_true rfl) rfl rfl rfl ?_
  refine K_aload (q := 23) X dX4_init_22 rfl ?_
  refine K_iconst (q := 24) X dX4_init_23 rfl ?_
  refine K_put (q := 27) X pX4_18 dX4_init_24 (Nat.le_of_ble_eq_true rfl) rfl rfl rfl ?_
  exact hret _ _ dX4_init_27 ⟨a1, a2, rfl⟩
set_option maxRecDepth 100000 in
set_option maxHeartbeats 4000000 in
theorem c_X6_init {l : Launch} {D : va_G} {T : ClassId × ClassId × ClassId} : KMet l D T yX6_init cX6_init { frames := 1, cells := 1, slots := 200, locals := 20 } 6 [.null, .int (zI 0), .int (zI 0)] (po6 T) 1 200 := by
  refine KMet.of (by decide) rfl ?_
  intro K h0 A Q X hret
  have X : KX l D T A K cX6_init RX6 { frames := 1, cells := 1, slots := 200, locals := 20 } := X
  refine K_aload (q := 1) X dX6_init_0 rfl ?_
  refine K_obj (q := 4) X dX6_init_1 kX6_3 (Nat.le_of_ble_eq_true rfl) (Nat.le_of_ble_eq_true rfl) rfl ?_
  refine K_aload (q := 5) X dX6_init_4 rfl ?_
  refine K_sipush (q := 8) X dX6_init_5 (by decide) rfl ?_
  refine K_newI (q := 10) (N := 200) X dX6_init_8 (by decide) (by decide) (Nat.le_of_ble_eq_true rfl) (Nat.le_of_ble_eq_true rfl) (Nat.le_of_ble_eq_true rfl) rfl (fun a1 => ?_)
  refine K_putF (q := 13) X ffX6_9 dX6_init_10 (Nat.le_of_ble_eq_true rfl) rfl rfl rfl ?_
  refine K_aload (q := 14) X dX6_init_13 rfl ?_
  refine K_iconst (q := 15) X dX6_init_14 rfl ?_
  refine K_put (q := 18) X pX6_15 dX6_init_15 (Nat.le_of_ble_eq_true rfl) rfl rfl rfl ?_
  refine K_aload (q := 19) X dX6_init_18 rfl ?_
  refine K_iconst (q := 20) X dX6_init_19 rfl ?_
  refine K_put (q := 23) X pX6_19 dX6_init_20 (Nat.le_of_ble_eq_true rfl) (by decide) (by decide) rfl ?_
  exact hret _ _ dX6_init_23 ⟨a1, rfl⟩
set_option maxRecDepth 100000 in
set_option maxHeartbeats 4000000 in
theorem c_X7_init {l : Launch} {D : va_G} {T : ClassId × ClassId × ClassId} : KMet l D T yX7_init cX7_init { frames := 1, cells := 1, slots := 60, locals := 20 } 7 [.null, .int (zI 0)] (po7 T) 1 60 := by
  refine KMet.of (by decide) rfl ?_
  intro K h0 A Q X hret
  have X : KX l D T A K cX7_init RX7 { frames := 1, cells := 1, slots := 60, locals := 20 } := X
  refine K_aload (q := 1) X dX7_init_0 rfl ?_
  refine K_obj (q := 4) X dX7_init_1 kX7_3 (Nat.le_of_ble_eq_true rfl) (Nat.le_of_ble_eq_true rfl) rfl ?_
  refine K_aload (q := 5) X dX7_init_4 rfl ?_
  refine K_bipush (q := 7) X dX7_init_5 (by decide) rfl ?_
  refine K_newI (q := 9) (N := 60) X dX7_init_7 (by decide) (by decide) (Nat.le_of_ble_eq_true rfl) (Nat.le_of_ble_eq_true rfl) (Nat.le_of_ble_eq_true rfl) rfl (fun a1 => ?_)
  refine K_putF (q := 12) X ffX7_9 dX7_init_9 (Nat.le_of_ble_eq_true rfl) rfl rfl rfl ?_
  refine K_aload (q := 13) X dX7_init_12 rfl ?_
  refine K_iconst (q := 14) X dX7_init_13 rfl ?_
  refine K_put (q := 17) X pX7_15 dX7_init_14 (Nat.le_of_ble_eq_true rfl) rfl rfl rfl ?_
  exact hret _ _ dX7_init_17 ⟨a1, rfl⟩
set_option maxRecDepth 100000 in
set_option maxHeartbeats 4000000 in
theorem c_X2_init {l : Launch} {D : va_G} {T : ClassId × ClassId × ClassId} : KMet l D T yX2_init cX2_init { frames := 2, cells := 9, slots := 1815, locals := 40 } 2 [.null, .null, .null, .int (zI 0)] (po2 T) 9 1815 := by
  refine KMet.of (by decide) rfl ?_
  intro K h0 A Q X hret
  have X : KX l D T A K cX2_init RX2 { frames := 2, cells := 9, slots := 1815, locals := 40 } := X
  refine K_aload (q := 1) X dX2_init_0 rfl ?_
  refine K_obj (q := 4) X dX2_init_1 kX2_3 (Nat.le_of_ble_eq_true rfl) (Nat.le_of_ble_eq_true rfl) rfl ?_
  refine K_aload (q := 5) X dX2_init_4 rfl ?_
  refine K_make (q := 12) X nwX2_9 (c_X0_init (l := l) (D := D) (T := T)) miX0_init (by decide +kernel) dX2_init_5 dX2_init_8 dX2_init_9 ⟨(Nat.le_of_ble_eq_true rfl), (Nat.le_of_ble_eq_true rfl)⟩ rfl rfl (Nat.le_of_ble_eq_true rfl) (Nat.le_of_ble_eq_true rfl) rfl (fun a1 w1 hw1 => ?_)
  obtain ⟨a1a, a1b, a1c, rfl⟩ := hw1
  refine K_put (q := 15) X pX2_12 dX2_init_12 (Nat.le_of_ble_eq_true rfl) rfl rfl rfl ?_
  refine K_aload (q := 16) X dX2_init_15 rfl ?_
  refine K_make (q := 23) X nwX2_9 (c_X0_init (l := l) (D := D) (T := T)) miX0_init (by decide +kernel) dX2_init_16 dX2_init_19 dX2_init_20 ⟨(Nat.le_of_ble_eq_true rfl), (Nat.le_of_ble_eq_true rfl)⟩ rfl rfl (Nat.le_of_ble_eq_true rfl) (Nat.le_of_ble_eq_true rfl) rfl (fun a2 w2 hw2 => ?_)
  obtain ⟨a2a, a2b, a2c, rfl⟩ := hw2
  refine K_put (q := 26) X pX2_18 dX2_init_23 (Nat.le_of_ble_eq_true rfl) rfl rfl rfl ?_
  refine K_aload (q := 27) X dX2_init_26 rfl ?_
  refine K_iconst (q := 28) X dX2_init_27 rfl ?_
  refine K_newI (q := 30) (N := 5) X dX2_init_28 (by decide) (by decide) (Nat.le_of_ble_eq_true rfl) (Nat.le_of_ble_eq_true rfl) (Nat.le_of_ble_eq_true rfl) rfl (fun a3 => ?_)
  refine K_putF (q := 33) X ffX2_21 dX2_init_30 (Nat.le_of_ble_eq_true rfl) rfl rfl rfl ?_
  refine K_aload (q := 34) X dX2_init_33 rfl ?_
  refine K_iconst (q := 35) X dX2_init_34 rfl ?_
  refine K_put (q := 38) X pX2_25 dX2_init_35 (Nat.le_of_ble_eq_true rfl) rfl rfl rfl ?_
  exact hret _ _ dX2_init_38 ⟨a1, a1a, a1b, a1c, a2, a2a, a2b, a2c, a3, rfl⟩
set_option maxRecDepth 100000 in
set_option maxHeartbeats 4000000 in
theorem c_X5_init {l : Launch} {D : va_G} {T : ClassId × ClassId × ClassId} : KMet l D T yX5_init cX5_init { frames := 2, cells := 8, slots := 1009, locals := 40 } 5 [.null, .null, .null] (po5 T) 8 1009 := by
  refine KMet.of (by decide) rfl ?_
  intro K h0 A Q X hret
  have X : KX l D T A K cX5_init RX5 { frames := 2, cells := 8, slots := 1009, locals := 40 } := X
  refine K_aload (q := 1) X dX5_init_0 rfl ?_
  refine K_obj (q := 4) X dX5_init_1 kX5_3 (Nat.le_of_ble_eq_true rfl) (Nat.le_of_ble_eq_true rfl) rfl ?_
  refine K_aload (q := 5) X dX5_init_4 rfl ?_
  refine K_make (q := 12) X nwX5_9 (c_X4_init (l := l) (D := D) (T := T)) miX4_init (by decide +kernel) dX5_init_5 dX5_init_8 dX5_init_9 ⟨(Nat.le_of_ble_eq_true rfl), (Nat.le_of_ble_eq_true rfl)⟩ rfl rfl (Nat.le_of_ble_eq_true rfl) (Nat.le_of_ble_eq_true rfl) rfl (fun a1 w1 hw1 => ?_)
  obtain ⟨a1a, a1b, rfl⟩ := hw1
  refine K_putF (q := 15) X ffX5_12 dX5_init_12 (Nat.le_of_ble_eq_true rfl) rfl rfl rfl ?_
  refine K_aload (q := 16) X dX5_init_15 rfl ?_
  refine K_make (q := 23) X nwX5_9 (c_X4_init (l := l) (D := D) (T := T)) miX4_init (by decide +kernel) dX5_init_16 dX5_init_19 dX5_init_20 ⟨(Nat.le_of_ble_eq_true rfl), (Nat.le_of_ble_eq_true rfl)⟩ rfl rfl (Nat.le_of_ble_eq_true rfl) (Nat.le_of_ble_eq_true rfl) rfl (fun a2 w2 hw2 => ?_)
  obtain ⟨a2a, a2b, rfl⟩ := hw2
  refine K_putF (q := 26) X ffX5_18 dX5_init_23 (Nat.le_of_ble_eq_true rfl) rfl rfl rfl ?_
  refine K_aload (q := 27) X dX5_init_26 rfl ?_
  refine K_make (q := 34) X nwX5_21 (c_X6_init (l := l) (D := D) (T := T)) miX6_init (by decide +kernel) dX5_init_27 dX5_init_30 dX5_init_31 ⟨(Nat.le_of_ble_eq_true rfl), (Nat.le_of_ble_eq_true rfl)⟩ rfl rfl (Nat.le_of_ble_eq_true rfl) (Nat.le_of_ble_eq_true rfl) rfl (fun a3 w3 hw3 => ?_)
  obtain ⟨a3q, rfl⟩ := hw3
  refine K_putF (q := 37) X ffX5_24 dX5_init_34 (Nat.le_of_ble_eq_true rfl) rfl rfl rfl ?_
  exact hret _ _ dX5_init_37 ⟨a1, a1a, a1b, a2, a2a, a2b, a3, a3q, rfl⟩
set_option maxRecDepth 100000 in
set_option maxHeartbeats 4000000 in
theorem c_X8_init {l : Launch} {D : va_G} {T : ClassId × ClassId × ClassId} : KMet l D T yX8_init cX8_init { frames := 3, cells := 54, slots := 7158, locals := 60 } 8 [.null, .null, .null, .null, .null, .null, .null, .null, .null, .null, .null, .long 0] (po8 T) 54 7158 := by
  refine KMet.of (by decide) rfl ?_
  intro K h0 A Q X hret
  have X : KX l D T A K cX8_init RX8 { frames := 3, cells := 54, slots := 7158, locals := 60 } := X
  refine K_aload (q := 1) X dX8_init_0 rfl ?_
  refine K_obj (q := 4) X dX8_init_1 kX8_1 (Nat.le_of_ble_eq_true rfl) (Nat.le_of_ble_eq_true rfl) rfl ?_
  refine K_aload (q := 5) X dX8_init_4 rfl ?_
  refine K_make (q := 12) X nwX8_7 (c_X6_init (l := l) (D := D) (T := T)) miX6_init (by decide +kernel) dX8_init_5 dX8_init_8 dX8_init_9 ⟨(Nat.le_of_ble_eq_true rfl), (Nat.le_of_ble_eq_true rfl)⟩ rfl rfl (Nat.le_of_ble_eq_true rfl) (Nat.le_of_ble_eq_true rfl) rfl (fun a1 w1 hw1 => ?_)
  obtain ⟨a1q, rfl⟩ := hw1
  refine K_putF (q := 15) X ffX8_10 dX8_init_12 (Nat.le_of_ble_eq_true rfl) rfl rfl rfl ?_
  refine K_aload (q := 16) X dX8_init_15 rfl ?_
  refine K_make (q := 23) X nwX8_7 (c_X6_init (l := l) (D := D) (T := T)) miX6_init (by decide +kernel) dX8_init_16 dX8_init_19 dX8_init_20 ⟨(Nat.le_of_ble_eq_true rfl), (Nat.le_of_ble_eq_true rfl)⟩ rfl rfl (Nat.le_of_ble_eq_true rfl) (Nat.le_of_ble_eq_true rfl) rfl (fun a2 w2 hw2 => ?_)
  obtain ⟨a2q, rfl⟩ := hw2
  refine K_putF (q := 26) X ffX8_16 dX8_init_23 (Nat.le_of_ble_eq_true rfl) rfl rfl rfl ?_
  refine K_aload (q := 27) X dX8_init_26 rfl ?_
  refine K_make (q := 34) X nwX8_7 (c_X6_init (l := l) (D := D) (T := T)) miX6_init (by decide +kernel) dX8_init_27 dX8_init_30 dX8_init_31 ⟨(Nat.le_of_ble_eq_true rfl), (Nat.le_of_ble_eq_true rfl)⟩ rfl rfl (Nat.le_of_ble_eq_true rfl) (Nat.le_of_ble_eq_true rfl) rfl (fun a3 w3 hw3 => ?_)
  obtain ⟨a3q, rfl⟩ := hw3
  refine K_putF (q := 37) X ffX8_19 dX8_init_34 (Nat.le_of_ble_eq_true rfl) rfl rfl rfl ?_
  refine K_aload (q := 38) X dX8_init_37 rfl ?_
  refine K_make (q := 45) X nwX8_7 (c_X6_init (l := l) (D := D) (T := T)) miX6_init (by decide +kernel) dX8_init_38 dX8_init_41 dX8_init_42 ⟨(Nat.le_of_ble_eq_true rfl), (Nat.le_of_ble_eq_true rfl)⟩ rfl rfl (Nat.le_of_ble_eq_true rfl) (Nat.le_of_ble_eq_true rfl) rfl (fun a4 w4 hw4 => ?_)
  obtain ⟨a4q, rfl⟩ := hw4
  refine K_putF (q := 48) X ffX8_22 dX8_init_45 (Nat.le_of_ble_eq_true rfl) rfl rfl rfl ?_
  refine K_aload (q := 49) X dX8_init_48 rfl ?_
  refine K_make (q := 56) X nwX8_7 (c_X6_init (l := l) (D := D) (T := T)) miX6_init (by decide +kernel) dX8_init_49 dX8_init_52 dX8_init_53 ⟨(Nat.le_of_ble_eq_true rfl), (Nat.le_of_ble_eq_true rfl)⟩ rfl rfl (Nat.le_of_ble_eq_true rfl) (Nat.le_of_ble_eq_true rfl) rfl (fun a5 w5 hw5 => ?_)
  obtain ⟨a5q, rfl⟩ := hw5
  refine K_putF (q := 59) X ffX8_25 dX8_init_56 (Nat.le_of_ble_eq_true rfl) rfl rfl rfl ?_
  refine K_aload (q := 60) X dX8_init_59 rfl ?_
  refine K_make (q := 67) X nwX8_28 (c_X4_init (l := l) (D := D) (T := T)) miX4_init (by decide +kernel) dX8_init_60 dX8_init_63 dX8_init_64 ⟨(Nat.le_of_ble_eq_true rfl), (Nat.le_of_ble_eq_true rfl)⟩ rfl rfl (Nat.le_of_ble_eq_true rfl) (Nat.le_of_ble_eq_true rfl) rfl (fun a6 w6 hw6 => ?_)
  obtain ⟨a6a, a6b, rfl⟩ := hw6
  refine K_putF (q := 70) X ffX8_31 dX8_init_67 (Nat.le_of_ble_eq_true rfl) rfl rfl rfl ?_
  refine K_aload (q := 71) X dX8_init_70 rfl ?_
  refine K_make (q := 78) X nwX8_35 (c_X5_init (l := l) (D := D) (T := T)) miX5_init (by decide +kernel) dX8_init_71 dX8_init_74 dX8_init_75 ⟨(Nat.le_of_ble_eq_true rfl), (Nat.le_of_ble_eq_true rfl)⟩ rfl rfl (Nat.le_of_ble_eq_true rfl) (Nat.le_of_ble_eq_true rfl) rfl (fun a7 w7 hw7 => ?_)
  obtain ⟨a7o, a7a, a7b, a7p, a7c, a7d, a7t, a7q, rfl⟩ := hw7
  refine K_putF (q := 81) X ffX8_38 dX8_init_78 (Nat.le_of_ble_eq_true rfl) rfl rfl rfl ?_
  refine K_aload (q := 82) X dX8_init_81 rfl ?_
  refine K_make (q := 89) X nwX8_42 (c_X2_init (l := l) (D := D) (T := T)) miX2_init (by decide +kernel) dX8_init_82 dX8_init_85 dX8_init_86 ⟨(Nat.le_of_ble_eq_true rfl), (Nat.le_of_ble_eq_true rfl)⟩ rfl rfl (Nat.le_of_ble_eq_true rfl) (Nat.le_of_ble_eq_true rfl) rfl (fun a8 w8 hw8 => ?_)
  obtain ⟨a8o, a8a, a8b, a8c, a8p, a8d, a8e, a8f, a8q, rfl⟩ := hw8
  refine K_putF (q := 92) X ffX8_45 dX8_init_89 (Nat.le_of_ble_eq_true rfl) rfl rfl rfl ?_
  refine K_aload (q := 93) X dX8_init_92 rfl ?_
  refine K_make (q := 100) X nwX8_49 (c_X1_init (l := l) (D := D) (T := T)) miX1_init (by decide +kernel) dX8_init_93 dX8_init_96 dX8_init_97 ⟨(Nat.le_of_ble_eq_true rfl), (Nat.le_of_ble_eq_true rfl)⟩ rfl rfl (Nat.le_of_ble_eq_true rfl) (Nat.le_of_ble_eq_true rfl) rfl (fun a9 w9 hw9 => ?_)
  obtain ⟨a9a, a9b, r9, rfl⟩ := hw9
  refine K_putF (q := 103) X ffX8_52 dX8_init_100 (Nat.le_of_ble_eq_true rfl) rfl rfl rfl ?_
  refine K_aload (q := 104) X dX8_init_103 rfl ?_
  refine K_make (q := 111) X nwX8_56 (c_X7_init (l := l) (D := D) (T := T)) miX7_init (by decide +kernel) dX8_init_104 dX8_init_107 dX8_init_108 ⟨(Nat.le_of_ble_eq_true rfl), (Nat.le_of_ble_eq_true rfl)⟩ rfl rfl (Nat.le_of_ble_eq_true rfl) (Nat.le_of_ble_eq_true rfl) rfl (fun a10 w10 hw10 => ?_)
  obtain ⟨a10a, rfl⟩ := hw10
  refine K_putF (q := 114) X ffX8_59 dX8_init_111 (Nat.le_of_ble_eq_true rfl) rfl rfl rfl ?_
  refine K_aload (q := 115) X dX8_init_114 rfl ?_
  refine K_make (q := 122) X nwX8_63 (c_X3_init (l := l) (D := D) (T := T)) miX3_init (by decide +kernel) dX8_init_115 dX8_init_118 dX8_init_119 ⟨(Nat.le_of_ble_eq_true rfl), (Nat.le_of_ble_eq_true rfl)⟩ rfl rfl (Nat.le_of_ble_eq_true rfl) (Nat.le_of_ble_eq_true rfl) rfl (fun a11 w11 hw11 => ?_)
  obtain ⟨a11a, a11b, rfl⟩ := hw11
  refine K_putF (q := 125) X ffX8_66 dX8_init_122 (Nat.le_of_ble_eq_true rfl) rfl rfl rfl ?_
  refine K_aload (q := 126) X dX8_init_125 rfl ?_
  refine K_lconst (q := 127) (v := 0) X dX8_init_126 rfl rfl ?_
  refine K_put (q := 130) X pX8_70 dX8_init_127 (Nat.le_of_ble_eq_true rfl) rfl rfl rfl ?_
  refine K_aload (q := 131) X dX8_init_130 rfl ?_
  refine K_get (q := 134) X fX8_10 dX8_init_131 rfl rfl ?_
  refine K_iconst (q := 135) X dX8_init_134 rfl ?_
  refine K_add (q := 138) X kX8_74 dX8_init_135 ⟨(Nat.le_of_ble_eq_true rfl), (Nat.le_of_ble_eq_true rfl)⟩ ⟨(Nat.le_of_ble_eq_true rfl), (Nat.le_of_ble_eq_true rfl)⟩ rfl (fun F hF => ?_)
  exact hret _ _ dX8_init_138 ⟨fun k => ([h0, a1, a1q, a2, a2q, a3, a3q, a4, a4q, a5, a5q, a6, a6a, a6b, a7, a7o, a7a, a7b, a7p, a7c, a7d, a7t, a7q, a8, a8o, a8a, a8b, a8c, a8p, a8d, a8e, a8f, a8q, a9, a9a, r9 0, r9 1, r9 2, r9 3, r9 4, r9 5, r9 6, r9 7, r9 8, r9 9, r9 10, r9 11, r9 12, r9 13, a9b, a10, a10a, a11, a11a, a11b] : List Nat).getD k 0, r9, F, rfl, hF, rfl⟩
set_option maxRecDepth 100000 in
set_option maxHeartbeats 4000000 in
theorem c_X9_init {l : Launch} {D : va_G} {T : ClassId × ClassId × ClassId} : KMet l D T yX9_init cX9_init { frames := 1, cells := 16, slots := 5344, locals := 20 } 9 [.int (zI 0), .null, .int (zI 0), .null, .null, .null, .null, .null, .int (zI 0), .null, .null, .int (zI 0), .null, .null, .long 0, .null, .null, .null, .null, .null, .int (zI 0), .null, .int (zI 0)] (po9 T) 16 5344 := by
  refine KMet.of (by decide) rfl ?_
  intro K h0 A Q X hret
  have X : KX l D T A K cX9_init RX9 { frames := 1, cells := 16, slots := 5344, locals := 20 } := X
  refine K_aload (q := 1) X dX9_init_0 rfl ?_
  refine K_obj (q := 4) X dX9_init_1 kX9_1 (Nat.le_of_ble_eq_true rfl) (Nat.le_of_ble_eq_true rfl) rfl ?_
  refine K_aload (q := 5) X dX9_init_4 rfl ?_
  refine K_bipush (q := 7) X dX9_init_5 (by decide) rfl ?_
  refine K_newI (q := 9) (N := 60) X dX9_init_7 (by decide) (by decide) (Nat.le_of_ble_eq_true rfl) (Nat.le_of_ble_eq_true rfl) (Nat.le_of_ble_eq_true rfl) rfl (fun a1 => ?_)
  refine K_putF (q := 12) X ffX9_7 dX9_init_9 (Nat.le_of_ble_eq_true rfl) rfl rfl rfl ?_
  refine K_aload (q := 13) X dX9_init_12 rfl ?_
  refine K_sipush (q := 16) X dX9_init_13 (by decide) rfl ?_
  refine K_newI (q := 18) (N := 201) X dX9_init_16 (by decide) (by decide) (Nat.le_of_ble_eq_true rfl) (Nat.le_of_ble_eq_true rfl) (Nat.le_of_ble_eq_true rfl) rfl (fun a2 => ?_)
  refine K_putF (q := 21) X ffX9_13 dX9_init_18 (Nat.le_of_ble_eq_true rfl) rfl rfl rfl ?_
  refine K_aload (q := 22) X dX9_init_21 rfl ?_
  refine K_sipush (q := 25) X dX9_init_22 (by decide) rfl ?_
  refine K_newI (q := 27) (N := 201) X dX9_init_25 (by decide) (by decide) (Nat.le_of_ble_eq_true rfl) (Nat.le_of_ble_eq_true rfl) (Nat.le_of_ble_eq_true rfl) rfl (fun a3 => ?_)
  refine K_putF (q := 30) X ffX9_16 dX9_init_27 (Nat.le_of_ble_eq_true rfl) rfl rfl rfl ?_
  refine K_aload (q := 31) X dX9_init_30 rfl ?_
  refine K_sipush (q := 34) X dX9_init_31 (by decide) rfl ?_
  refine K_newI (q := 36) (N := 201) X dX9_init_34 (by decide) (by decide) (Nat.le_of_ble_eq_true rfl) (Nat.le_of_ble_eq_true rfl) (Nat.le_of_ble_eq_true rfl) rfl (fun a4 => ?_)
  refine K_putF (q := 39) X ffX9_19 dX9_init_36 (Nat.le_of_ble_eq_true rfl) rfl rfl rfl ?_
  refine K_aload (q := 40) X dX9_init_39 rfl ?_
  refine K_sipush (q := 43) X dX9_init_40 (by decide) rfl ?_
  refine K_newI (q := 45) (N := 201) X dX9_init_43 (by decide) (by decide) (Nat.le_of_ble_eq_true rfl) (Nat.le_of_ble_eq_true rfl) (Nat.le_of_ble_eq_true rfl) rfl (fun a5 => ?_)
  refine K_putF (q := 48) X ffX9_22 dX9_init_45 (Nat.le_of_ble_eq_true rfl) rfl rfl rfl ?_
  refine K_aload (q := 49) X dX9_init_48 rfl ?_
  refine K_sipush (q := 52) X dX9_init_49 (by decide) rfl ?_
  refine K_newI (q := 54) (N := 2814) X dX9_init_52 (by decide) (by decide) (Nat.le_of_ble_eq_true rfl) (Nat.le_of_ble_eq_true rfl) (Nat.le_of_ble_eq_true rfl) rfl (fun a6 => ?_)
  refine K_putF (q := 57) X ffX9_25 dX9_init_54 (Nat.le_of_ble_eq_true rfl) rfl rfl rfl ?_
  refine K_aload (q := 58) X dX9_init_57 rfl ?_
  refine K_sipush (q := 61) X dX9_init_58 (by decide) rfl ?_
  refine K_newI (q := 63) (N := 402) X dX9_init_61 (by decide) (by decide) (Nat.le_of_ble_eq_true rfl) (Nat.le_of_ble_eq_true rfl) (Nat.le_of_ble_eq_true rfl) rfl (fun a7 => ?_)
  refine K_putF (q := 66) X ffX9_28 dX9_init_63 (Nat.le_of_ble_eq_true rfl) rfl rfl rfl ?_
  refine K_aload (q := 67) X dX9_init_66 rfl ?_
  refine K_iconst (q := 68) X dX9_init_67 rfl ?_
  refine K_newZ (q := 70) (N := 2) X dX9_init_68 (by decide) (by decide) (Nat.le_of_ble_eq_true rfl) (Nat.le_of_ble_eq_true rfl) (Nat.le_of_ble_eq_true rfl) rfl (fun a8 => ?_)
  refine K_putF (q := 73) X ffX9_31 dX9_init_70 (Nat.le_of_ble_eq_true rfl) rfl rfl rfl ?_
  refine K_aload (q := 74) X dX9_init_73 rfl ?_
  refine K_bipush (q := 76) X dX9_init_74 (by decide) rfl ?_
  refine K_newI (q := 78) (N := 6) X dX9_init_76 (by decide) (by decide) (Nat.le_of_ble_eq_true rfl) (Nat.le_of_ble_eq_true rfl) (Nat.le_of_ble_eq_true rfl) rfl (fun a9 => ?_)
  refine K_putF (q := 81) X ffX9_35 dX9_init_78 (Nat.le_of_ble_eq_true rfl) rfl rfl rfl ?_
  refine K_aload (q := 82) X dX9_init_81 rfl ?_
  refine K_bipush (q := 84) X dX9_init_82 (by decide) rfl ?_
  refine K_newI (q := 86) (N := 6) X dX9_init_84 (by decide) (by decide) (Nat.le_of_ble_eq_true rfl) (Nat.le_of_ble_eq_true rfl) (Nat.le_of_ble_eq_true rfl) rfl (fun a10 => ?_)
  refine K_putF (q := 89) X ffX9_38 dX9_init_86 (Nat.le_of_ble_eq_true rfl) rfl rfl rfl ?_
  refine K_aload (q := 90) X dX9_init_89 rfl ?_
  refine K_sipush (q := 93) X dX9_init_90 (by decide) rfl ?_
  refine K_newI (q := 95) (N := 201) X dX9_init_93 (by decide) (by decide) (Nat.le_of_ble_eq_true rfl) (Nat.le_of_ble_eq_true rfl) (Nat.le_of_ble_eq_true rfl) rfl (fun a11 => ?_)
  refine K_putF (q := 98) X ffX9_41 dX9_init_95 (Nat.le_of_ble_eq_true rfl) rfl rfl rfl ?_
  refine K_aload (q := 99) X dX9_init_98 rfl ?_
  refine K_sipush (q := 102) X dX9_init_99 (by decide) rfl ?_
  refine K_newI (q := 104) (N := 201) X dX9_init_102 (by decide) (by decide) (Nat.le_of_ble_eq_true rfl) (Nat.le_of_ble_eq_true rfl) (Nat.le_of_ble_eq_true rfl) rfl (fun a12 => ?_)
  refine K_putF (q := 107) X ffX9_44 dX9_init_104 (Nat.le_of_ble_eq_true rfl) rfl rfl rfl ?_
  refine K_aload (q := 108) X dX9_init_107 rfl ?_
  refine K_sipush (q := 111) X dX9_init_108 (by decide) rfl ?_
  refine K_newZ (q := 113) (N := 201) X dX9_init_111 (by decide) (by decide) (Nat.le_of_ble_eq_true rfl) (Nat.le_of_ble_eq_true rfl) (Nat.le_of_ble_eq_true rfl) rfl (fun a13 => ?_)
  refine K_putF (q := 116) X ffX9_47 dX9_init_113 (Nat.le_of_ble_eq_true rfl) rfl rfl rfl ?_
  refine K_aload (q := 117) X dX9_init_116 rfl ?_
  refine K_sipush (q := 120) X dX9_init_117 (by decide) rfl ?_
  refine K_newI (q := 122) (N := 321) X dX9_init_120 (by decide) (by decide) (Nat.le_of_ble_eq_true rfl) (Nat.le_of_ble_eq_true rfl) (Nat.le_of_ble_eq_true rfl) rfl (fun a14 => ?_)
  refine K_putF (q := 125) X ffX9_50 dX9_init_122 (Nat.le_of_ble_eq_true rfl) rfl rfl rfl ?_
  refine K_aload (q := 126) X dX9_init_125 rfl ?_
  refine K_sipush (q := 129) X dX9_init_126 (by decide) rfl ?_
  refine K_newI (q := 131) (N := 321) X dX9_init_129 (by decide) (by decide) (Nat.le_of_ble_eq_true rfl) (Nat.le_of_ble_eq_true rfl) (Nat.le_of_ble_eq_true rfl) rfl (fun a15 => ?_)
  refine K_putF (q := 134) X ffX9_53 dX9_init_131 (Nat.le_of_ble_eq_true rfl) rfl rfl rfl ?_
  refine K_aload (q := 135) X dX9_init_134 rfl ?_
  refine K_iconst (q := 136) X dX9_init_135 rfl ?_
  refine K_newI (q := 138) (N := 5) X dX9_init_136 (by decide) (by decide) (Nat.le_of_ble_eq_true rfl) (Nat.le_of_ble_eq_true rfl) (Nat.le_of_ble_eq_true rfl) rfl (fun a16 => ?_)
  refine K_putF (q := 141) X ffX9_56 dX9_init_138 (Nat.le_of_ble_eq_true rfl) rfl rfl rfl ?_
  refine K_aload (q := 142) X dX9_init_141 rfl ?_
  refine K_get (q := 145) X fX9_13 dX9_init_142 rfl rfl ?_
  refine K_sipush (q := 148) X dX9_init_145 (by decide) rfl ?_
  refine K_iconst (q := 149) X dX9_init_148 rfl ?_
  refine K_iast (q := 150) (j := 200) 2 X dX9_init_149 rfl (zI_in (k := 200) rfl (by decide) (by decide)) (by decide) rfl ?_
  exact hret _ _ dX9_init_150 ⟨fun k => ([h0, a1, a2, a3, a4, a5, a6, a7, a8, a9, a10, a11, a12, a13, a14, a15, a16] : List Nat).getD k 0, rfl, rfl⟩
