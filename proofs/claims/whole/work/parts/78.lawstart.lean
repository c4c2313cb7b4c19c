/-! THE LAW from its entry: the two objects are made, then the loop -/
theorem W_make {p : Program} {l : Launch} {e : Env} {R : Room} {s : State} {m : MethodId} {args : Array Value} {below : List Frame} {meth : Method} {cd : Code} {cc : ByteArray} {nL : Nat} {own : String} {D : va_G} {T : ClassId × ClassId × ClassId} {A : Nat → Prop} {H : Heap} {locs : List Loc} {ls : Array Slot} {cells slots pc : Nat} {QQ : State → Prop} {ws : va_W} {idx idx2 ci N mc ms : Nat} {fs : List Value} {y : MethodName} {cy : ByteArray} {rm2 : Room} {post : Nat → va_W → Prop}
    (hx : p.tables.exec = Jvm.exec) (hb : cd.code = cc) (hml : cd.maxLocals = nL) (hown : s.vm.findClass own = some m.cls) (hts : ∀ w ∈ wsL_law, w.before args s = true) (hK : va_K D vwCl (tyK T) s) (hns : nsK s) (hao : va_AOA .int s) (hA : ∀ q, s.heap.size ≤ q → A q) (hP : va_P D vwCl ws H) (hD : va_D A ws) (hS : va_S A s.heap H locs) (hls : ls.size = nL)
    (nw : NW own idx ci N fs) (hM : KMet l D T y cy rm2 ci fs post mc ms) (mi : MI y cy) (lk : Cond.methodLink own idx2 y ∈ wsL_law)
    (d1 : decode cc pc = .ok (.new idx, 3)) (d2 : decode cc (pc + 3) = .ok (.dup, 1)) (d3 : decode cc (pc + 4) = .ok (.invokespecial idx2, 3)) (hR2 : rm2.frames + 1 ≤ R.frames ∧ 8 + (1 + 11) + rm2.locals ≤ R.locals) (hrc : rm2.cells = mc) (hrs : rm2.slots = ms) (hc : cells + 1 + mc ≤ R.cells) (hs : slots + N + ms ≤ R.slots)
    (kk : ∀ (a : Nat) (w1 : va_W) (H2 : Heap) (locs2 : List Loc), post a w1 → va_P D vwCl (ws ++ w1) H2 → va_D A (ws ++ w1) → va_S A s.heap H2 locs2 → W p l e R s m args below meth cd H2 locs2 (cells + 1 + mc) (slots + N + ms) QQ (F0 m (pc + 7) ls [.ref a])) : W p l e R s m args below meth cd H locs cells slots QQ (F0 m pc ls []) := by
  obtain ⟨C, Tt, ty, n1, n2, n3, n4, n5, n6, n7⟩ := nw
  obtain ⟨m1, m2, m3, m4, m5, m6, m7⟩ := mi
  refine va_new (ci := ci) (fs := fs) hx hb hts n2 ty n3 hown (hts _ n4) (hts _ n5) (hts _ n6) hK hP hD hS hA n1 n7 (by omega) (by omega) d1 (fun a H1 hP1 hD1 hS1 => ?_)
  refine lv_dup hx hb d2 rfl ?_
  have hPc : va_P D vwCl [(a, .inr (ci, fs))] H1 := fun k z hz => by
    have hj := (List.getElem?_eq_some_iff.mp hz).1
    simp only [List.length_cons, List.length_nil] at hj
    rw [show k = 0 by omega] at hz
    cases hz
    exact hP1 ws.length _ (by rw [List.getElem?_append_right (Nat.le_refl _), Nat.sub_self]; rfl)
  have hFc : ∀ z, va_A [(a, .inr (ci, fs))] H1.size z → A z := fun z hz => by
    rcases hz with ⟨k, e9, hz⟩ | hz
    · have hj := (List.getElem?_eq_some_iff.mp hz).1
      simp only [List.length_cons, List.length_nil] at hj
      rw [show k = 0 by omega] at hz
      cases hz
      exact hD1.2 ws.length _ (by rw [List.getElem?_append_right (Nat.le_refl _), Nat.sub_self]; rfl)
    · exact hA z (Nat.le_trans hS1.1 hz)
  refine va_callv (va_runI (b := a) (As := []) (rest := [.ref a]) (Ts := wsL_law) (n := 0) ⟨hx, hb, hml, hown, hts⟩ (hM a H1.size)
    ⟨callB_of (rm := rm2) (mc := mc) (ms := ms) 0 hts (gw_in m1) rfl hrc hrs (hts _ m2) (hts _ lk) ⟨m4, m5, m6⟩ hR2, m7, hts _ m3⟩
    ⟨k_blind, fun U hU hW => ⟨rfl, by rw [hU], by rw [hU]; exact hPc, va_K.moved hW.alike hK, hns.warm hW, AOA_warm hW hao⟩⟩
    rfl rfl hls rfl (lv_room (Nat.le_of_ble_eq_true rfl)) d3 ⟨hc, hs⟩) hS1 (fun z _ h => hFc z h) hFc (fun w1 t H2 locs2 ht hvm hw hB hz1 hk1 hS2 => ?_)
  obtain ⟨hP2, hD2⟩ := hB
  rw [ht] at hP2
  obtain ⟨hP3, hD3⟩ := va_joinE hP1 hD1 hk1 hFc hP2 hD2
  exact kk a w1 H2 locs2 hw hP3 hD3 hS2
theorem ns_in : ∀ q ∈ nsts, Cond.methodLinkNest q.1 q.2.1 q.2.2 RX8 ∈ lw_tbl := by decide +kernel
theorem ao_in : Cond.arrayOver (.array .int) ∈ lw_tbl := by decide +kernel
theorem arr_start {s : State} {args : Array Value} {ty : FieldType} (h : (Cond.arrayClass ty).before args s = true) : ∃ cA, ArrOfT s cA ty ∧ s.vm.findClass ("[" ++ ty.toString) = some cA := by
  obtain ⟨cA, kA, comp, hf, hk, hkind⟩ := Cond.arrayClass_spec h
  exact ⟨cA, fun n z => ⟨fun k h => (by cases h), kA, hk, comp, hkind⟩, hf⟩
set_option maxRecDepth 100000 in
set_option maxHeartbeats 4000000 in
theorem whole_start {p : Program} {e : Env} {s : State} {m : MethodId} {below : List Frame} {meth : Method} {c : Code} (l : Launch) (hflags : l.flags = flags0) {b L : Nat} {xs : Nat → Int32} (hL : L ≤ 2048) (C0 : lw_At p s m meth c b L xs) : W p l e room_1 s m #[Value.ref b] below meth c s.heap [] 0 0 (lw_Z below #[Value.ref b] s) (entryFrame m ([Value.ref b] : List Value).toArray 4) := by
  obtain ⟨hx, hb, hr, hml, hown, hts, hX, hbl, hlocks, hgv⟩ := id C0
  have htw : ∀ w ∈ wsL_law, w.before #[Value.ref b] s = true := fun w hw => hts w (wsL_law_in w hw)
  obtain ⟨c0, iS0, hKn0⟩ := u_known (C := RX0) (T := TX0) (N := 5) (n := 5) htw inlX0 (htw _ (List.mem_of_getElem? (i := 71) (by decide +kernel)))
  obtain ⟨c1, iS1, hKn1⟩ := u_known (C := RX1) (T := TX1) (N := 4) (n := 4) htw inlX1 (htw _ (List.mem_of_getElem? (i := 34) (by decide +kernel)))
  obtain ⟨c2, iS2, hKn2⟩ := u_known (C := RX2) (T := TX2) (N := 4) (n := 4) htw inlX2 (htw _ (List.mem_of_getElem? (i := 30) (by decide +kernel)))
  obtain ⟨c3, iS3, hKn3⟩ := u_known (C := RX3) (T := TX3) (N := 3) (n := 3) htw inlX3 (htw _ (List.mem_of_getElem? (i := 42) (by decide +kernel)))
  obtain ⟨c4, iS4, hKn4⟩ := u_known (C := RX4) (T := TX4) (N := 3) (n := 3) htw inlX4 (htw _ (List.mem_of_getElem? (i := 22) (by decide +kernel)))
  obtain ⟨c5, iS5, hKn5⟩ := u_known (C := RX5) (T := TX5) (N := 3) (n := 3) htw inlX5 (htw _ (List.mem_of_getElem? (i := 26) (by decide +kernel)))
  obtain ⟨c6, iS6, hKn6⟩ := u_known (C := RX6) (T := TX6) (N := 3) (n := 3) htw inlX6 (htw _ (List.mem_of_getElem? (i := 14) (by decide +kernel)))
  obtain ⟨c7, iS7, hKn7⟩ := u_known (C := RX7) (T := TX7) (N := 2) (n := 2) htw inlX7 (htw _ (List.mem_of_getElem? (i := 38) (by decide +kernel)))
  obtain ⟨c8, iS8, hKn8⟩ := u_known (C := RX8) (T := TX8) (N := 12) (n := 12) htw inlX8 (htw _ (List.mem_of_getElem? (i := 1) (by decide +kernel)))
  obtain ⟨c9, iS9, hKn9⟩ := u_known (C := RX9) (T := TX9) (N := 23) (n := 23) htw inlX9 (htw _ (List.mem_of_getElem? (i := 4) (by decide +kernel)))
  obtain ⟨dC, dI, hKc⟩ : ∃ (dC : Nat → ClassId) (dI : Nat → Nat → Nat), ∀ (k : Nat) (q : vw_C), vwCl[k]? = some q → u_Kn s q.1 q.2.1 q.2.2 (dC k) (dI k) := by
    refine ⟨fun k => match k with | 0 => c0 | 1 => c1 | 2 => c2 | 3 => c3 | 4 => c4 | 5 => c5 | 6 => c6 | 7 => c7 | 8 => c8 | _ => c9, fun k => match k with | 0 => iS0 | 1 => iS1 | 2 => iS2 | 3 => iS3 | 4 => iS4 | 5 => iS5 | 6 => iS6 | 7 => iS7 | 8 => iS8 | _ => iS9, ?_⟩
    intro k q hq
    match k, hq with
    | 0, hq => cases hq; exact hKn0
    | 1, hq => cases hq; exact hKn1
    | 2, hq => cases hq; exact hKn2
    | 3, hq => cases hq; exact hKn3
    | 4, hq => cases hq; exact hKn4
    | 5, hq => cases hq; exact hKn5
    | 6, hq => cases hq; exact hKn6
    | 7, hq => cases hq; exact hKn7
    | 8, hq => cases hq; exact hKn8
    | 9, hq => cases hq; exact hKn9
    | k + 10, hq => exact absurd hq (by simp [vwCl])
  obtain ⟨cI, hI1, hI2⟩ := arr_start (htw _ q_aI)
  obtain ⟨cZ, hZ1, hZ2⟩ := arr_start (htw _ q_aZ)
  have hao : va_AOA .int s := hts _ ao_in
  obtain ⟨comp, cQ, kQ, hq1, hq2, hq3, hq4, hq5⟩ := arrayOver_specB (hts _ ao_in)
  have hns : nsK s := fun q hq => va_Nw.of rfl (hts _ (ns_in q hq))
  have hK : va_K (dC, dI) vwCl (tyK (cI, cZ, cQ)) s := by
    refine ⟨hKc, fun k q h => ?_⟩
    match k, h with
    | 0, h => cases h; exact ⟨hI1, hI2⟩
    | 1, h => cases h; exact ⟨hZ1, hZ2⟩
    | 2, h => cases h; exact ⟨fun n z => ⟨fun k h => (by cases h), kQ, hq3, comp, hq4⟩, hq5⟩
    | k + 3, h => exact absurd h (by simp [tyK])
  have hA : ∀ q : Nat, s.heap.size ≤ q → (fun q : Nat => s.heap.size ≤ q) q := fun _ h => h
  have hl := lv_entry ([.ref b]) (n := 4) (Nat.le_of_ble_eq_true rfl)
  rw [lg_entry_eq]
  generalize (lg_sl ([.ref b]) ++ List.replicate (4 - (lg_sl ([.ref b])).length) Slot.unset).toArray = ls at hl ⊢
  have hl : lv_has ls 4 [(0, .ref b)] := hl
  refine W_make (A := fun q : Nat => s.heap.size ≤ q) (ws := []) hx hb hml hown htw hK hns hao hA (fun k q h => absurd h (by simp)) ⟨fun i j p q h => absurd h (by simp), fun k q h => absurd h (by simp)⟩ va_S.rf hl.1 nwL_7 (c_X8_init (l := l)) miX8_init kL_9 dL_law_0 dL_law_3 dL_law_4 ⟨(Nat.le_of_ble_eq_true rfl), (Nat.le_of_ble_eq_true rfl)⟩ rfl rfl (Nat.le_of_ble_eq_true rfl) (Nat.le_of_ble_eq_true rfl) (fun q0 w1 H1 locs1 hp1 hP1 hD1 hS1 => ?_)
  obtain ⟨a, r, F, rfl, hF, rfl⟩ := hp1
  refine lv_astore_n (lv' := [(1, .ref (a 0)), (0, .ref b)]) hx hb dL_law_7 rfl hl (by decide) rfl (fun ls hl => ?_)
  refine W_make (A := fun q : Nat => s.heap.size ≤ q) (ws := [] ++ w8 (cI, cZ, cQ) a r F) hx hb hml hown htw hK hns hao hA hP1 hD1 hS1 hl.1 nwL_10 (c_X9_init (l := l)) miX9_init kL_12 dL_law_8 dL_law_11 dL_law_12 ⟨(Nat.le_of_ble_eq_true rfl), (Nat.le_of_ble_eq_true rfl)⟩ rfl rfl (Nat.le_of_ble_eq_true rfl) (Nat.le_of_ble_eq_true rfl) (fun q1 w2 H2 locs2 hp2 hP2 hD2 hS2 => ?_)
  obtain ⟨b9, rfl, rfl⟩ := hp2
  have hP2 : va_P (dC, dI) vwCl (w8 (cI, cZ, cQ) a r F ++ w9 (cI, cZ, cQ) b9) H2 := hP2
  have hD2 : va_D (fun q : Nat => s.heap.size ≤ q) (w8 (cI, cZ, cQ) a r F ++ w9 (cI, cZ, cQ) b9) := hD2
  refine lv_astore_n (lv' := [(2, .ref (b9 0)), (1, .ref (a 0)), (0, .ref b)]) hx hb dL_law_15 rfl hl (by decide) rfl (fun ls hl => ?_)
  refine lv_iconst (v := zI 0) hx hb dL_law_16 rfl ?_
  refine lv_istore_n (lv' := [(3, .int (zI 0)), (2, .ref (b9 0)), (1, .ref (a 0)), (0, .ref b)]) hx hb dL_law_17 rfl hl (by decide) rfl (fun ls hl => ?_)
  have X : LX l (GG (dC, dI) (cI, cZ, cQ) a r b9) (p, l, e, room_1, s, m, #[Value.ref b], below, meth, c) b L xs := ⟨hx, hb, hml, hown, htw, hK, st_inj hD2, hr, hlocks, rfl, rfl, hns, hX, hbl, rfl, st_A hD2⟩
  have hloop := law_loop X rfl hL (L + 9) 0 S00 (cG (cI, cZ, cQ) a r b9 F) (by omega) (by omega) (st_WX hF) st_WM
  refine hloop H2 locs2 ls (st_P hP2) hS2 ⟨_, by rw [hml]; exact hl, fun i v h => ?_⟩
  match i, h with
  | 0, h => have e9 : Value.ref b = v := Option.some.inj h; subst e9; exact List.mem_cons_of_mem _ (List.mem_cons_of_mem _ (List.mem_cons_of_mem _ List.mem_cons_self))
  | 1, h => have e9 : Value.ref (a 0) = v := Option.some.inj h; subst e9; exact List.mem_cons_of_mem _ (List.mem_cons_of_mem _ List.mem_cons_self)
  | 2, h => have e9 : Value.ref (b9 0) = v := Option.some.inj h; subst e9; exact List.mem_cons_of_mem _ List.mem_cons_self
  | 3, h => have e9 : Value.int (zI 0) = v := Option.some.inj h; subst e9; exact List.mem_cons_self
  | i + 4, h => exact absurd h (by simp [mkL])
