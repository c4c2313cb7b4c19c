/-! THE LAW's loop -/
set_option maxRecDepth 100000 in
set_option maxHeartbeats 4000000 in
theorem law_loop {l : Launch} {G : Gm} {K : Cx} {b nS : Nat} {xs : Nat → Int32} (X : LX l G K b nS xs) (hN : G.2.1 = 72) (hnS : nS ≤ 2048) : ∀ (n i : Nat) (S : SS) (c : HP), nS + 8 - i < n → i ≤ nS + 8 → WX G c S → WM G c S → LW G K 18 (mkL [some (.ref b), some (.ref (G.1 0)), some (.ref (G.1 55)), some (.int (zI ((i : Nat) : Int)))]) [] c := by
  intro n
  induction n with
  | zero => intro i S c hm; exact absurd hm (Nat.not_lt_zero _)
  | succ n ih =>
    intro i S c hm hi hWX hWM
    refine L_iload_n (q := 19) X dL_law_18 rfl rfl ?_
    refine L_aload_n (q := 20) X dL_law_19 rfl rfl ?_
    refine L_slen (q := 21) X dL_law_20 rfl ?_
    refine L_iconst (q := 22) X dL_law_21 rfl ?_
    refine L_isub (q := 23) X dL_law_22 rfl ?_
    refine L_icmp_gt (q := 26) (t := 922) X dL_law_23 (by omega) (by omega) rfl rfl (fun h23 => ?_) (fun h23 => ?_)
    · refine L_iconst (q := 923) X dL_law_922 rfl ?_
      exact L_end X dL_law_923
    · have kk : ∀ (S' : SS) (c' : HP), WX G c' S' → WM G c' S' → LW G K 916 (mkL [some (.ref b), some (.ref (G.1 0)), some (.ref (G.1 55)), some (.int (zI ((i : Nat) : Int)))]) [] c' := fun S' c' h1 h2 => by
        refine L_iinc (q := 919) X dL_law_916 rfl (by decide) (okP_s rfl rfl) rfl ?_
        refine L_goto (q := 18) X dL_law_919 rfl ?_
        exact LW.loc (sS rfl (sS rfl (sS rfl (sZ rfl (by omega) sE)))) (ih (i + 4) S' c' (by omega) (by omega) h1 h2)
      have hi3 : i + 3 < nS := by omega
      refine L_aload_n (q := 27) X dL_law_26 rfl rfl ?_
      refine L_iload_n (q := 28) X dL_law_27 rfl rfl ?_
      refine L_sld (q := 29) (k := i) X dL_law_28 (by omega) (by omega) (by omega) rfl ?_
      refine L_bipush (q := 31) X dL_law_29 (by decide) rfl ?_
      refine L_iand (q := 32) X dL_law_31 rfl ?_
      rw [zI_of]
      obtain ⟨k, hk, ek⟩ := and31 (xs i)
      rw [ek]
      match k, hk with
      | 0, _ => exact L_tableIn (q := 172) (off := 140) X dL_law_32 (by decide) (by decide) (by decide) rfl rfl (law_c0 X hN hnS hi3 hWX hWM kk)
      | 1, _ => exact L_tableIn (q := 195) (off := 163) X dL_law_32 (by decide) (by decide) (by decide) rfl rfl (law_c1 X hN hnS hi3 hWX hWM kk)
      | 2, _ => exact L_tableIn (q := 208) (off := 176) X dL_law_32 (by decide) (by decide) (by decide) rfl rfl (law_c2 X hN hnS hi3 hWX hWM kk)
      | 3, _ => exact L_tableIn (q := 221) (off := 189) X dL_law_32 (by decide) (by decide) (by decide) rfl rfl (law_c3 X hN hnS hi3 hWX hWM kk)
      | 4, _ => exact L_tableIn (q := 234) (off := 202) X dL_law_32 (by decide) (by decide) (by decide) rfl rfl (law_c4 X hN hnS hi3 hWX hWM kk)
      | 5, _ => exact L_tableIn (q := 247) (off := 215) X dL_law_32 (by decide) (by decide) (by decide) rfl rfl (law_c5 X hN hnS hi3 hWX hWM kk)
      | 6, _ => exact L_tableIn (q := 270) (off := 238) X dL_law_32 (by decide) (by decide) (by decide) rfl rfl (law_c6 X hN hnS hi3 hWX hWM kk)
      | 7, _ => exact L_tableIn (q := 293) (off := 261) X dL_law_32 (by decide) (by decide) (by decide) rfl rfl (law_c7 X hN hnS hi3 hWX hWM kk)
      | 8, _ => exact L_tableIn (q := 306) (off := 274) X dL_law_32 (by decide) (by decide) (by decide) rfl rfl (law_c8 X hN hnS hi3 hWX hWM kk)
      | 9, _ => exact L_tableIn (q := 329) (off := 297) X dL_law_32 (by decide) (by decide) (by decide) rfl rfl (law_c9 X hN hnS hi3 hWX hWM kk)
      | 10, _ => exact L_tableIn (q := 342) (off := 310) X dL_law_32 (by decide) (by decide) (by decide) rfl rfl (law_c10 X hN hnS hi3 hWX hWM kk)
      | 11, _ => exact L_tableIn (q := 365) (off := 333) X dL_law_32 (by decide) (by decide) (by decide) rfl rfl (law_c11 X hN hnS hi3 hWX hWM kk)
      | 12, _ => exact L_tableIn (q := 398) (off := 366) X dL_law_32 (by decide) (by decide) (by decide) rfl rfl (law_c12 X hN hnS hi3 hWX hWM kk)
      | 13, _ => exact L_tableIn (q := 411) (off := 379) X dL_law_32 (by decide) (by decide) (by decide) rfl rfl (law_c13 X hN hnS hi3 hWX hWM kk)
      | 14, _ => exact L_tableIn (q := 434) (off := 402) X dL_law_32 (by decide) (by decide) (by decide) rfl rfl (law_c14 X hN hnS hi3 hWX hWM kk)
      | 15, _ => exact L_tableIn (q := 467) (off := 435) X dL_law_32 (by decide) (by decide) (by decide) rfl rfl (law_c15 X hN hnS hi3 hWX hWM kk)
      | 16, _ => exact L_tableIn (q := 480) (off := 448) X dL_law_32 (by decide) (by decide) (by decide) rfl rfl (law_c16 X hN hnS hi3 hWX hWM kk)
      | 17, _ => exact L_tableIn (q := 513) (off := 481) X dL_law_32 (by decide) (by decide) (by decide) rfl rfl (law_c17 X hN hnS hi3 hWX hWM kk)
      | 18, _ => exact L_tableIn (q := 546) (off := 514) X dL_law_32 (by decide) (by decide) (by decide) rfl rfl (law_c18 X hN hnS hi3 hWX hWM kk)
      | 19, _ => exact L_tableIn (q := 559) (off := 527) X dL_law_32 (by decide) (by decide) (by decide) rfl rfl (law_c19 X hN hnS hi3 hWX hWM kk)
      | 20, _ => exact L_tableIn (q := 582) (off := 550) X dL_law_32 (by decide) (by decide) (by decide) rfl rfl (law_c20 X hN hnS hi3 hWX hWM kk)
      | 21, _ => exact L_tableIn (q := 605) (off := 573) X dL_law_32 (by decide) (by decide) (by decide) rfl rfl (law_c21 X hN hnS hi3 hWX hWM kk)
      | 22, _ => exact L_tableIn (q := 638) (off := 606) X dL_law_32 (by decide) (by decide) (by decide) rfl rfl (law_c22 X hN hnS hi3 hWX hWM kk)
      | 23, _ => exact L_tableIn (q := 661) (off := 629) X dL_law_32 (by decide) (by decide) (by decide) rfl rfl (law_c23 X hN hnS hi3 hWX hWM kk)
      | 24, _ => exact L_tableIn (q := 724) (off := 692) X dL_law_32 (by decide) (by decide) (by decide) rfl rfl (law_c24 X hN hnS hi3 hWX hWM kk)
      | 25, _ => exact L_tableIn (q := 757) (off := 725) X dL_law_32 (by decide) (by decide) (by decide) rfl rfl (law_c25 X hN hnS hi3 hWX hWM kk)
      | 26, _ => exact L_tableIn (q := 780) (off := 748) X dL_law_32 (by decide) (by decide) (by decide) rfl rfl (law_c26 X hN hnS hi3 hWX hWM kk)
      | 27, _ => exact L_tableIn (q := 793) (off := 761) X dL_law_32 (by decide) (by decide) (by decide) rfl rfl (law_c27 X hN hnS hi3 hWX hWM kk)
      | 28, _ => exact L_tableIn (q := 847) (off := 815) X dL_law_32 (by decide) (by decide) (by decide) rfl rfl (law_c28 X hN hnS hi3 hWX hWM kk)
      | 29, _ => exact L_tableIn (q := 870) (off := 838) X dL_law_32 (by decide) (by decide) (by decide) rfl rfl (law_c29 X hN hnS hi3 hWX hWM kk)
      | 30, _ => exact L_tableIn (q := 893) (off := 861) X dL_law_32 (by decide) (by decide) (by decide) rfl rfl (law_c30 X hN hnS hi3 hWX hWM kk)
      | 31, _ => exact L_tableOut (q := 916) X dL_law_32 (by decide) (by decide) rfl (kk S c hWX hWM)
      | k + 32, h => exact absurd h (by omega)
