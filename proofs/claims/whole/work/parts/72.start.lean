/-! THE START: the places of the law's world -/
def gA (a r b : Nat → Nat) : Nat → Nat := fun k => ([a 0, a 1, a 2, a 3, a 4, a 5, a 6, a 7, a 8, a 9, a 10, a 11, a 12, a 13, a 14, a 15, a 16, a 17, a 18, a 19, a 20, a 21, a 22, a 23, a 24, a 25, a 26, a 27, a 28, a 29, a 30, a 31, a 32, a 33, a 34, a 49, a 50, a 51, a 52, a 53, a 54, r 0, r 1, r 2, r 3, r 4, r 5, r 6, r 7, r 8, r 9, r 10, r 11, r 12, r 13, b 0, b 1, b 2, b 3, b 4, b 5, b 6, b 7, b 8, b 9, b 10, b 11, b 12, b 13, b 14, b 15, b 16] : List Nat).getD k 0
def GG (D : va_G) (T : ClassId × ClassId × ClassId) (a r b : Nat → Nat) : Gm := (gA a r b, 72, D, T.1, T.2.1, T.2.2)
def cG (T : ClassId × ClassId × ClassId) (a r b : Nat → Nat) (F : Nat → Int) : HP := fun k => ([.inr (8, [.ref (a 1), .ref (a 3), .ref (a 5), .ref (a 7), .ref (a 9), .ref (a 11), .ref (a 14), .ref (a 23), .ref (a 33), .ref (a 50), .ref (a 52), .long 0]), .inr (6, [.ref (a 2), .int (zI 1), .int (zI 0)]), .inl (T.1, 200, .inl (fun k => zI (F k))), .inr (6, [.ref (a 4), .int (zI 0), .int (zI 0)]), zA T.1 200, .inr (6, [.ref (a 6), .int (zI 0), .int (zI 0)]), zA T.1 200, .inr (6, [.ref (a 8), .int (zI 0), .int (zI 0)]), zA T.1 200, .inr (6, [.ref (a 10), .int (zI 0), .int (zI 0)]), zA T.1 200, .inr (4, [.ref (a 12), .ref (a 13), .int (zI 0)]), zA T.1 200, zA T.1 200, .inr (5, [.ref (a 15), .ref (a 18), .ref (a 21)]), .inr (4, [.ref (a 16), .ref (a 17), .int (zI 0)]), zA T.1 200, zA T.1 200, .inr (4, [.ref (a 19), .ref (a 20), .int (zI 0)]), zA T.1 200, zA T.1 200, .inr (6, [.ref (a 22), .int (zI 0), .int (zI 0)]), zA T.1 200, .inr (2, [.ref (a 24), .ref (a 28), .ref (a 32), .int (zI 0)]), .inr (0, [.ref (a 25), .ref (a 26), .ref (a 27), .int (zI 0), .int (zI 0)]), zA T.1 300, zA T.1 300, zA T.1 300, .inr (0, [.ref (a 29), .ref (a 30), .ref (a 31), .int (zI 0), .int (zI 0)]), zA T.1 300, zA T.1 300, zA T.1 300, zA T.1 5, .inr (1, [.ref (a 34), .ref (a 49), .int (zI 0), .int (zI 0)]), .inl (T.2.2, 14, .inr (.inr (.inr (.inr (fun i => some (gA a r b (41 + i))))))), zA T.1 14, .inr (7, [.ref (a 51), .int (zI 0)]), zA T.1 60, .inr (3, [.ref (a 53), .ref (a 54), .int (zI 0)]), zA T.1 6, zA T.1 6, zA T.1 200, zA T.1 200, zA T.1 200, zA T.1 200, zA T.1 200, zA T.1 200, zA T.1 200, zA T.1 200, zA T.1 200, zA T.1 200, zA T.1 200, zA T.1 200, zA T.1 200, zA T.1 200, .inr (9, [.int (zI 0), .ref (b 1), .int (zI 0), .ref (b 2), .ref (b 3), .ref (b 4), .ref (b 5), .ref (b 6), .int (zI 0), .ref (b 7), .ref (b 8), .int (zI 0), .ref (b 9), .ref (b 10), .long 0, .ref (b 11), .ref (b 12), .ref (b 13), .ref (b 14), .ref (b 15), .int (zI 0), .ref (b 16), .int (zI 0)]), zA T.1 60, .inl (T.1, 201, .inl (fun k => zI (va_up (fun _ => 0) 200 1 k))), zA T.1 201, zA T.1 201, zA T.1 201, zA T.1 2814, zA T.1 402, zA T.2.1 2, zA T.1 6, zA T.1 6, zA T.1 201, zA T.1 201, zA T.2.1 201, zA T.1 321, zA T.1 321, zA T.1 5] : List va_E).getD k (zA T.1 0)
def iG : Nat → Nat := fun k => ([0, 1, 2, 3, 4, 5, 6, 7, 8, 9, 10, 11, 12, 13, 14, 15, 16, 17, 18, 19, 20, 21, 22, 23, 24, 25, 26, 27, 28, 29, 30, 31, 32, 33, 34, 49, 50, 51, 52, 53, 54, 35, 36, 37, 38, 39, 40, 41, 42, 43, 44, 45, 46, 47, 48, 55, 56, 57, 58, 59, 60, 61, 62, 63, 64, 65, 66, 67, 68, 69, 70, 71] : List Nat).getD k 0
abbrev S00 : SS := ([0], [], [], [], [], [], 0)
theorem iG_inj : ∀ i, i < 72 → ∀ j, j < 72 → iG i = iG j → i = j := by decide +kernel
section
variable {D : va_G} {T : ClassId × ClassId × ClassId} {a r b : Nat → Nat} {F : Nat → Int} {H : Heap} {A : Nat → Prop}
set_option maxRecDepth 100000 in
set_option maxHeartbeats 4000000 in
theorem st_at (k : Nat) (hk : k < 72) : ∃ e, (w8 T a r F ++ w9 T b)[iG k]? = some (gA a r b k, e) := by
  match k, hk with
  | 0, _ => exact ⟨_, rfl⟩
  | 1, _ => exact ⟨_, rfl⟩
  | 2, _ => exact ⟨_, rfl⟩
  | 3, _ => exact ⟨_, rfl⟩
  | 4, _ => exact ⟨_, rfl⟩
  | 5, _ => exact ⟨_, rfl⟩
  | 6, _ => exact ⟨_, rfl⟩
  | 7, _ => exact ⟨_, rfl⟩
  | 8, _ => exact ⟨_, rfl⟩
  | 9, _ => exact ⟨_, rfl⟩
  | 10, _ => exact ⟨_, rfl⟩
  | 11, _ => exact ⟨_, rfl⟩
  | 12, _ => exact ⟨_, rfl⟩
  | 13, _ => exact ⟨_, rfl⟩
  | 14, _ => exact ⟨_, rfl⟩
  | 15, _ => exact ⟨_, rfl⟩
  | 16, _ => exact ⟨_, rfl⟩
  | 17, _ => exact ⟨_, rfl⟩
  | 18, _ => exact ⟨_, rfl⟩
  | 19, _ => exact ⟨_, rfl⟩
  | 20, _ => exact ⟨_, rfl⟩
  | 21, _ => exact ⟨_, rfl⟩
  | 22, _ => exact ⟨_, rfl⟩
  | 23, _ => exact ⟨_, rfl⟩
  | 24, _ => exact ⟨_, rfl⟩
  | 25, _ => exact ⟨_, rfl⟩
  | 26, _ => exact ⟨_, rfl⟩
  | 27, _ => exact ⟨_, rfl⟩
  | 28, _ => exact ⟨_, rfl⟩
  | 29, _ => exact ⟨_, rfl⟩
  | 30, _ => exact ⟨_, rfl⟩
  | 31, _ => exact ⟨_, rfl⟩
  | 32, _ => exact ⟨_, rfl⟩
  | 33, _ => exact ⟨_, rfl⟩
  | 34, _ => exact ⟨_, rfl⟩
  | 35, _ => exact ⟨_, rfl⟩
  | 36, _ => exact ⟨_, rfl⟩
  | 37, _ => exact ⟨_, rfl⟩
  | 38, _ => exact ⟨_, rfl⟩
  | 39, _ => exact ⟨_, rfl⟩
  | 40, _ => exact ⟨_, rfl⟩
  | 41, _ => exact ⟨_, rfl⟩
  | 42, _ => exact ⟨_, rfl⟩
  | 43, _ => exact ⟨_, rfl⟩
  | 44, _ => exact ⟨_, rfl⟩
  | 45, _ => exact ⟨_, rfl⟩
  | 46, _ => exact ⟨_, rfl⟩
  | 47, _ => exact ⟨_, rfl⟩
  | 48, _ => exact ⟨_, rfl⟩
  | 49, _ => exact ⟨_, rfl⟩
  | 50, _ => exact ⟨_, rfl⟩
  | 51, _ => exact ⟨_, rfl⟩
  | 52, _ => exact ⟨_, rfl⟩
  | 53, _ => exact ⟨_, rfl⟩
  | 54, _ => exact ⟨_, rfl⟩
  | 55, _ => exact ⟨_, rfl⟩
  | 56, _ => exact ⟨_, rfl⟩
  | 57, _ => exact ⟨_, rfl⟩
  | 58, _ => exact ⟨_, rfl⟩
  | 59, _ => exact ⟨_, rfl⟩
  | 60, _ => exact ⟨_, rfl⟩
  | 61, _ => exact ⟨_, rfl⟩
  | 62, _ => exact ⟨_, rfl⟩
  | 63, _ => exact ⟨_, rfl⟩
  | 64, _ => exact ⟨_, rfl⟩
  | 65, _ => exact ⟨_, rfl⟩
  | 66, _ => exact ⟨_, rfl⟩
  | 67, _ => exact ⟨_, rfl⟩
  | 68, _ => exact ⟨_, rfl⟩
  | 69, _ => exact ⟨_, rfl⟩
  | 70, _ => exact ⟨_, rfl⟩
  | 71, _ => exact ⟨_, rfl⟩
  | k + 72, h => exact absurd h (by omega)
theorem st_inj (hD : va_D A (w8 T a r F ++ w9 T b)) : injG (GG D T a r b) := by
  intro i j hi hj e
  obtain ⟨e1, h1⟩ := st_at (T := T) (F := F) (a := a) (r := r) (b := b) i hi
  obtain ⟨e2, h2⟩ := st_at (T := T) (F := F) (a := a) (r := r) (b := b) j hj
  exact iG_inj i hi j hj (hD.1 _ _ _ _ h1 h2 e)
theorem st_A (hD : va_D A (w8 T a r F ++ w9 T b)) : ∀ q, FA (GG D T a r b) q → A q := by
  rintro q ⟨k, hk, rfl⟩
  obtain ⟨e1, h1⟩ := st_at (T := T) (F := F) (a := a) (r := r) (b := b) k hk
  exact hD.2 _ _ h1
theorem arr_cong {cA : ClassId} {n : Nat} {f g : Nat → Option Nat} (h : ∀ i, i < n → f i = g i) : vp_cell cA (n, .inr (.inr (.inr (.inr f)))) = vp_cell cA (n, .inr (.inr (.inr (.inr g)))) := by
  show arrV cA n (fun j => va_rf (f j)) = arrV cA n (fun j => va_rf (g j))
  unfold arrV
  congr 2
  funext j
  show va_rf (f j.val) = va_rf (g j.val)
  rw [h j.val j.isLt]
theorem st_r (i : Nat) (h : i < 14) : gA a r b (41 + i) = r i := by
  match i, h with
  | 0, _ => rfl
  | 1, _ => rfl
  | 2, _ => rfl
  | 3, _ => rfl
  | 4, _ => rfl
  | 5, _ => rfl
  | 6, _ => rfl
  | 7, _ => rfl
  | 8, _ => rfl
  | 9, _ => rfl
  | 10, _ => rfl
  | 11, _ => rfl
  | 12, _ => rfl
  | 13, _ => rfl
  | i + 14, h => exact absurd h (by omega)
set_option maxRecDepth 100000 in
set_option maxHeartbeats 4000000 in
theorem st_P (hP : va_P D vwCl (w8 T a r F ++ w9 T b) H) : va_P (GG D T a r b).2.2.1 vwCl (layG (GG D T a r b) (cG T a r b F)) H := by
  have hc : ∀ k, k < 72 → va_at D vwCl (gA a r b k, cG T a r b F k) H := fun k hk => by
    match k, hk with
    | 0, _ => exact hP 0 _ rfl
    | 1, _ => exact hP 1 _ rfl
    | 2, _ => exact hP 2 _ rfl
    | 3, _ => exact hP 3 _ rfl
    | 4, _ => exact hP 4 _ rfl
    | 5, _ => exact hP 5 _ rfl
    | 6, _ => exact hP 6 _ rfl
    | 7, _ => exact hP 7 _ rfl
    | 8, _ => exact hP 8 _ rfl
    | 9, _ => exact hP 9 _ rfl
    | 10, _ => exact hP 10 _ rfl
    | 11, _ => exact hP 11 _ rfl
    | 12, _ => exact hP 12 _ rfl
    | 13, _ => exact hP 13 _ rfl
    | 14, _ => exact hP 14 _ rfl
    | 15, _ => exact hP 15 _ rfl
    | 16, _ => exact hP 16 _ rfl
    | 17, _ => exact hP 17 _ rfl
    | 18, _ => exact hP 18 _ rfl
    | 19, _ => exact hP 19 _ rfl
    | 20, _ => exact hP 20 _ rfl
    | 21, _ => exact hP 21 _ rfl
    | 22, _ => exact hP 22 _ rfl
    | 23, _ => exact hP 23 _ rfl
    | 24, _ => exact hP 24 _ rfl
    | 25, _ => exact hP 25 _ rfl
    | 26, _ => exact hP 26 _ rfl
    | 27, _ => exact hP 27 _ rfl
    | 28, _ => exact hP 28 _ rfl
    | 29, _ => exact hP 29 _ rfl
    | 30, _ => exact hP 30 _ rfl
    | 31, _ => exact hP 31 _ rfl
    | 32, _ => exact hP 32 _ rfl
    | 33, _ => exact hP 33 _ rfl
    | 34, _ =>
      have h9 := hP 34 _ rfl
      show H[a 34]? = some (vp_cell T.2.2 (14, .inr (.inr (.inr (.inr (fun i => some (gA a r b (41 + i))))))))
      rw [arr_cong (g := fun i => if i < 14 then some (r i) else none) (fun i hi => by rw [st_r i hi, if_pos hi])]
      exact h9
    | 35, _ => exact hP 49 _ rfl
    | 36, _ => exact hP 50 _ rfl
    | 37, _ => exact hP 51 _ rfl
    | 38, _ => exact hP 52 _ rfl
    | 39, _ => exact hP 53 _ rfl
    | 40, _ => exact hP 54 _ rfl
    | 41, _ => exact hP 35 _ rfl
    | 42, _ => exact hP 36 _ rfl
    | 43, _ => exact hP 37 _ rfl
    | 44, _ => exact hP 38 _ rfl
    | 45, _ => exact hP 39 _ rfl
    | 46, _ => exact hP 40 _ rfl
    | 47, _ => exact hP 41 _ rfl
    | 48, _ => exact hP 42 _ rfl
    | 49, _ => exact hP 43 _ rfl
    | 50, _ => exact hP 44 _ rfl
    | 51, _ => exact hP 45 _ rfl
    | 52, _ => exact hP 46 _ rfl
    | 53, _ => exact hP 47 _ rfl
    | 54, _ => exact hP 48 _ rfl
    | 55, _ => exact hP 55 _ rfl
    | 56, _ => exact hP 56 _ rfl
    | 57, _ =>
      have h9 := hP 57 _ rfl
      have e9 := upd_zI (fun _ => 0) 200 1
      have h8 : H[b 2]? = some (vp_cell T.1 (201, .inl (upd (fun _ => zI 0) 200 (zI 1)))) := h9
      rw [e9] at h8
      exact h8
    | 58, _ => exact hP 58 _ rfl
    | 59, _ => exact hP 59 _ rfl
    | 60, _ => exact hP 60 _ rfl
    | 61, _ => exact hP 61 _ rfl
    | 62, _ => exact hP 62 _ rfl
    | 63, _ => exact hP 63 _ rfl
    | 64, _ => exact hP 64 _ rfl
    | 65, _ => exact hP 65 _ rfl
    | 66, _ => exact hP 66 _ rfl
    | 67, _ => exact hP 67 _ rfl
    | 68, _ => exact hP 68 _ rfl
    | 69, _ => exact hP 69 _ rfl
    | 70, _ => exact hP 70 _ rfl
    | 71, _ => exact hP 71 _ rfl
    | k + 72, h => exact absurd h (by omega)
  intro k q hk
  obtain ⟨h1, rfl⟩ := layG_at hk
  exact hc k h1
set_option maxRecDepth 100000 in
set_option maxHeartbeats 4000000 in
theorem st_rows (i : Nat) (h : i < 14) : cG T a r b F (41 + i) = aI (GG D T a r b) 200 (fun _ => 0) := by
  match i, h with
  | 0, _ => rfl
  | 1, _ => rfl
  | 2, _ => rfl
  | 3, _ => rfl
  | 4, _ => rfl
  | 5, _ => rfl
  | 6, _ => rfl
  | 7, _ => rfl
  | 8, _ => rfl
  | 9, _ => rfl
  | 10, _ => rfl
  | 11, _ => rfl
  | 12, _ => rfl
  | 13, _ => rfl
  | i + 14, h => exact absurd h (by omega)
set_option maxRecDepth 100000 in
set_option maxHeartbeats 4000000 in
theorem st_WX (hF : F 0 = 0) : WX (GG D T a r b) (cG T a r b F) S00 := by
  have dN : (GG D T a r b).2.1 = 72 := rfl
  refine ⟨rfl, rfl, ⟨([0], 0), ⟨(by first | decide | exact Nat.le_of_ble_eq_true rfl), (by first | decide | exact Nat.le_of_ble_eq_true rfl), (by first | decide | exact Nat.le_of_ble_eq_true rfl), (by first | decide | exact Nat.le_of_ble_eq_true rfl), Or.inl rfl, rfl, F, rfl, fun k hk => ?_⟩, rfl, rfl⟩, Gd_var0, ⟨([], 0), ⟨(by first | decide | exact Nat.le_of_ble_eq_true rfl), (by first | decide | exact Nat.le_of_ble_eq_true rfl), (by first | decide | exact Nat.le_of_ble_eq_true rfl), (by first | decide | exact Nat.le_of_ble_eq_true rfl), Or.inl rfl, rfl, fun _ => 0, rfl, fun k hk => absurd hk (Nat.not_lt_zero _)⟩⟩, ⟨([], 0), ⟨(by first | decide | exact Nat.le_of_ble_eq_true rfl), (by first | decide | exact Nat.le_of_ble_eq_true rfl), (by first | decide | exact Nat.le_of_ble_eq_true rfl), (by first | decide | exact Nat.le_of_ble_eq_true rfl), Or.inl rfl, rfl, fun _ => 0, rfl, fun k hk => absurd hk (Nat.not_lt_zero _)⟩⟩, ⟨([], 0), ⟨(by first | decide | exact Nat.le_of_ble_eq_true rfl), (by first | decide | exact Nat.le_of_ble_eq_true rfl), (by first | decide | exact Nat.le_of_ble_eq_true rfl), (by first | decide | exact Nat.le_of_ble_eq_true rfl), Or.inl rfl, rfl, fun _ => 0, rfl, fun k hk => absurd hk (Nat.not_lt_zero _)⟩, rfl, rfl⟩, Or.inl rfl, ⟨([], 0), ⟨(by first | decide | exact Nat.le_of_ble_eq_true rfl), (by first | decide | exact Nat.le_of_ble_eq_true rfl), (by first | decide | exact Nat.le_of_ble_eq_true rfl), (by first | decide | exact Nat.le_of_ble_eq_true rfl), Or.inl rfl, rfl, fun _ => 0, rfl, fun k hk => absurd hk (Nat.not_lt_zero _)⟩, rfl, rfl⟩, Or.inl rfl, ⟨0, fun _ => 0, fun _ => 0, ⟨(by first | decide | exact Nat.le_of_ble_eq_true rfl), (by first | decide | exact Nat.le_of_ble_eq_true rfl), (by first | decide | exact Nat.le_of_ble_eq_true rfl), (by first | decide | exact Nat.le_of_ble_eq_true rfl), (by first | decide | exact Nat.le_of_ble_eq_true rfl), (by first | decide | exact Nat.le_of_ble_eq_true rfl), (by first | decide | exact Nat.le_of_ble_eq_true rfl), rfl, rfl, rfl⟩⟩, ⟨rfl, ⟨0, fun _ => 0, fun _ => 0, ⟨(by first | decide | exact Nat.le_of_ble_eq_true rfl), (by first | decide | exact Nat.le_of_ble_eq_true rfl), (by first | decide | exact Nat.le_of_ble_eq_true rfl), (by first | decide | exact Nat.le_of_ble_eq_true rfl), (by first | decide | exact Nat.le_of_ble_eq_true rfl), (by first | decide | exact Nat.le_of_ble_eq_true rfl), (by first | decide | exact Nat.le_of_ble_eq_true rfl), rfl, rfl, rfl⟩⟩, ⟨0, fun _ => 0, fun _ => 0, ⟨(by first | decide | exact Nat.le_of_ble_eq_true rfl), (by first | decide | exact Nat.le_of_ble_eq_true rfl), (by first | decide | exact Nat.le_of_ble_eq_true rfl), (by first | decide | exact Nat.le_of_ble_eq_true rfl), (by first | decide | exact Nat.le_of_ble_eq_true rfl), (by first | decide | exact Nat.le_of_ble_eq_true rfl), (by first | decide | exact Nat.le_of_ble_eq_true rfl), rfl, rfl, rfl⟩⟩, ⟨([], 0), ⟨(by first | decide | exact Nat.le_of_ble_eq_true rfl), (by first | decide | exact Nat.le_of_ble_eq_true rfl), (by first | decide | exact Nat.le_of_ble_eq_true rfl), (by first | decide | exact Nat.le_of_ble_eq_true rfl), Or.inl rfl, rfl, fun _ => 0, rfl, fun k hk => absurd hk (Nat.not_lt_zero _)⟩⟩⟩, ⟨24, 28, ([], 0), fun _ => 0, 0, Or.inl ⟨rfl, rfl⟩, rfl, ⟨⟨(by first | decide | exact Nat.le_of_ble_eq_true rfl), (by first | decide | exact Nat.le_of_ble_eq_true rfl), (by first | decide | exact Nat.le_of_ble_eq_true rfl), (by first | decide | exact Nat.le_of_ble_eq_true rfl)⟩, ⟨(by first | decide | exact Nat.le_of_ble_eq_true rfl), (by first | decide | exact Nat.le_of_ble_eq_true rfl), (by first | decide | exact Nat.le_of_ble_eq_true rfl), (by first | decide | exact Nat.le_of_ble_eq_true rfl), (by first | decide | exact Nat.le_of_ble_eq_true rfl), (by first | decide | exact Nat.le_of_ble_eq_true rfl)⟩, (by first | decide | exact Nat.le_of_ble_eq_true rfl), Or.inl rfl, rfl, fun _ => 0, fun _ => 0, fun _ => 0, rfl, rfl, rfl, fun k hk => absurd hk (Nat.not_lt_zero _)⟩, ⟨([], 0), ⟨⟨(by first | decide | exact Nat.le_of_ble_eq_true rfl), (by first | decide | exact Nat.le_of_ble_eq_true rfl), (by first | decide | exact Nat.le_of_ble_eq_true rfl), (by first | decide | exact Nat.le_of_ble_eq_true rfl)⟩, ⟨(by first | decide | exact Nat.le_of_ble_eq_true rfl), (by first | decide | exact Nat.le_of_ble_eq_true rfl), (by first | decide | exact Nat.le_of_ble_eq_true rfl), (by first | decide | exact Nat.le_of_ble_eq_true rfl), (by first | decide | exact Nat.le_of_ble_eq_true rfl), (by first | decide | exact Nat.le_of_ble_eq_true rfl)⟩, (by first | decide | exact Nat.le_of_ble_eq_true rfl), Or.inl rfl, rfl, fun _ => 0, fun _ => 0, fun _ => 0, rfl, rfl, rfl, fun k hk => absurd hk (Nat.not_lt_zero _)⟩⟩, rfl⟩, ⟨0, fun _ => 0, fun _ => fun _ => 0, (by first | decide | exact Nat.le_of_ble_eq_true rfl), by decide, rfl, rfl, rfl, fun i hi => st_rows i hi, fun q hq => absurd hq List.not_mem_nil, fun k hk => absurd hk (Nat.not_lt_zero _)⟩, ⟨rfl, (by first | decide | exact Nat.le_of_ble_eq_true rfl), fun t ht => absurd ht List.not_mem_nil, fun _ => 0, rfl, fun k hk => absurd hk (Nat.not_lt_zero _)⟩, ⟨rfl, (by first | decide | exact Nat.le_of_ble_eq_true rfl), fun t ht => absurd ht List.not_mem_nil, fun _ => 0, fun _ => 0, rfl, rfl, fun k hk => absurd hk (Nat.not_lt_zero _)⟩⟩
  have hk : k < 1 := hk
  rw [show k = 0 by omega]
  exact hF
set_option maxRecDepth 100000 in
set_option maxHeartbeats 4000000 in
theorem st_WM : WM (GG D T a r b) (cG T a r b F) S00 := by
  refine ⟨rfl, ⟨0, 0, 0, rfl, Or.inl rfl⟩, ⟨(by first | decide | exact Nat.le_of_ble_eq_true rfl), fun t ht => absurd ht List.not_mem_nil, fun _ => 0, rfl, fun k hk => absurd hk (Nat.not_lt_zero _)⟩, ⟨(by first | decide | exact Nat.le_of_ble_eq_true rfl), (by first | decide | exact Nat.le_of_ble_eq_true rfl), va_up (fun _ => 0) 200 1, rfl, rfl, fun k hk => ?_⟩, Gd_var0, ⟨(by first | decide | exact Nat.le_of_ble_eq_true rfl), fun _ => 0, rfl⟩, ⟨(by first | decide | exact Nat.le_of_ble_eq_true rfl), fun _ => 0, rfl⟩, ⟨(by first | decide | exact Nat.le_of_ble_eq_true rfl), fun _ => 0, rfl⟩, ⟨(by first | decide | exact Nat.le_of_ble_eq_true rfl), fun q hq => absurd hq List.not_mem_nil, fun _ => 0, rfl, trivial⟩, ⟨fun _ => 0, fun _ => 0, rfl, rfl, ⟨by rw [if_pos rfl], fun q => absurd rfl q, Or.inl rfl⟩, ⟨by rw [if_pos rfl], fun q => absurd rfl q, Or.inl rfl⟩⟩, ⟨(by first | decide | exact Nat.le_of_ble_eq_true rfl), fun q hq => absurd hq List.not_mem_nil, fun _ => 0, fun _ => 0, rfl, rfl, fun k hk => absurd hk (Nat.not_lt_zero _)⟩, ⟨⟨fun _ => 0, rfl⟩, ⟨fun _ => 0, rfl⟩, ⟨fun _ => 0, rfl⟩⟩, ⟨⟨fun _ => 0, rfl⟩, ⟨fun _ => 0, rfl⟩, ⟨fun _ => 0, rfl⟩⟩⟩
  have hk : k < 1 := hk
  rw [show k = 0 by omega]
  rfl
end
