/-! THE MODEL's calls: the text's first error -/
def tk9 (c : Int) : Int := if c = 76 then 1001 else if c = 64 then 1000 else if 48 ≤ c ∧ c ≤ 57 then c - 48 else -9
theorem tk9_tkc (c : Int) : (tk9 c = -9 ↔ tkc c = -1) ∧ (tk9 c ≠ -9 → tk9 c = tkc c ∧ 0 ≤ tk9 c ∧ tk9 c ≤ 1001) := by
  unfold tk9 tkc
  split
  · omega
  · split
    · omega
    · split <;> omega
set_option maxRecDepth 100000 in
set_option maxHeartbeats 4000000 in
theorem c_X9_tokenOf {l : Launch} {G : Gm} {c : HP} {t : Int} (hG : injG G) (ht : rg t) : AMet l G yX9_tokenOf cX9_tokenOf 1 ((some .int)) (rmR 1 25) [.int (zI t)] c (Qi (fun v c' => v = zI (tk9 t) ∧ c' = c)) := by
  refine AMet.of (vl := [some (.int (zI t))]) (by decide) hG (Nat.le_of_ble_eq_true rfl) rfl ?_
  intro K X
  have X : Fx l G K cX9_tokenOf 1 RX9 ((some .int)) (rmR 1 25) := X
  refine A_iload_n (q := 1) X dX9_tokenOf_0 rfl rfl ?_
  refine A_bipush (q := 3) X dX9_tokenOf_1 (by decide) rfl ?_
  refine A_icmp_ne (q := 6) (t := 12) X dX9_tokenOf_3 (by omega) (by decide) rfl rfl (fun hb3 => ?_) (fun hb3 => ?_)
  · refine A_iload_n (q := 13) X dX9_tokenOf_12 rfl rfl ?_
    refine A_bipush (q := 15) X dX9_tokenOf_13 (by decide) rfl ?_
    refine A_icmp_ne (q := 18) (t := 24) X dX9_tokenOf_15 (by omega) (by decide) rfl rfl (fun hb15 => ?_) (fun hb15 => ?_)
    · refine A_iload_n (q := 25) X dX9_tokenOf_24 rfl rfl ?_
      refine A_i2l (q := 26) X dX9_tokenOf_25 rfl ?_
      refine A_ldc2 (q := 29) X dX9_tokenOf_26 nX9_121 rfl ?_
      refine A_ldc2 (q := 32) X dX9_tokenOf_29 nX9_123 rfl ?_
      refine A_S3i (q := 35) X (c_inZ (a := t) (b := 48) (d := 57) hG rfl (by decide) (by decide) (by omega) (by omega) (by omega)) mX9_in kX9_114 dX9_tokenOf_32 (by decide) (Nat.le_of_ble_eq_true rfl) rfl (fun vq_3 cq_2 hq_1 => ?_)
      obtain ⟨rfl, hq_1⟩ := hq_1
      obtain rfl := hq_1.symm
      refine A_beq (q := 38) (t := 45) X dX9_tokenOf_35 rfl rfl (fun hb35 => ?_) (fun hb35 => ?_)
      · refine A_bipush (q := 47) X dX9_tokenOf_45 (by decide) rfl ?_
        exact A_ireturn X dX9_tokenOf_47 ⟨congrArg zI (by unfold tk9; split <;> (try split) <;> (try split) <;> omega), rfl⟩
      · refine A_iload_n (q := 39) X dX9_tokenOf_38 rfl rfl ?_
        refine A_bipush (q := 41) X dX9_tokenOf_39 (by decide) rfl ?_
        refine A_isub (q := 42) X dX9_tokenOf_41 rfl ?_
        refine A_goto (q := 47) X dX9_tokenOf_42 rfl ?_
        exact A_ireturn X dX9_tokenOf_47 ⟨congrArg zI (by unfold tk9; split <;> (try split) <;> (try split) <;> omega), rfl⟩
    · refine A_sipush (q := 21) X dX9_tokenOf_18 (by decide) rfl ?_
      refine A_goto (q := 47) X dX9_tokenOf_21 rfl ?_
      exact A_ireturn X dX9_tokenOf_47 ⟨congrArg zI (by unfold tk9; split <;> (try split) <;> (try split) <;> omega), rfl⟩
  · refine A_sipush (q := 9) X dX9_tokenOf_6 (by decide) rfl ?_
    refine A_goto (q := 47) X dX9_tokenOf_9 rfl ?_
    exact A_ireturn X dX9_tokenOf_47 ⟨congrArg zI (by unfold tk9; split <;> (try split) <;> (try split) <;> omega), rfl⟩
