/-! MACHINE -/
abbrev c23 (G : Gm) (c : HP) (P Q : Nat) (pk : Int) : Prop := c 23 = .inr (2, [.ref (G.1 P), .ref (G.1 Q), .ref (G.1 32), .int (zI pk)])
theorem RsX_eq {T : List Int × Int} {a b : List Int} (h : RsX T a) (e : a = b) : RsX T b := e ▸ h
theorem eeE_c {t : Int} (h : 1000000 ≤ t) : eeE t = (kn t : Nat) := by unfold eeE; rw [if_pos h]
theorem shE_c {t : Int} (h : 1000000 ≤ t) : shE t = (kh t : Nat) := by unfold shE; rw [if_pos h]
theorem XB.num {l : List Int} (h : XB l) {k : Nat} (hk : k < l.length) (ht : 1000000 ≤ l.getD k 0) : kn (l.getD k 0) ≤ 310 ∧ kh (l.getD k 0) ≤ 310 := by
  have := h.tk hk
  rw [eeE_c ht, shE_c ht] at this
  omega
set_option maxRecDepth 100000 in
set_option maxHeartbeats 4000000 in
theorem c_X2_writeBeta {l : Launch} {G : Gm} {c : HP} {P Q p : Nat} {pk : Int} {X1 T : List Int × Int} {x : List Int} (hG : injG G) (hN : G.2.1 = 72) (hPQ : (P = 24 ∧ Q = 28) ∨ (P = 28 ∧ Q = 24)) (h23 : c23 G c P Q pk) (hE : Ex G c P (P + 1) (P + 2) (P + 3) X1) (hXG : XG X1.1) (hE2 : Ex G c Q (Q + 1) (Q + 2) (Q + 3) T) (hx : RsX T x) (hp : p + 1 < X1.1.length) (h0 : X1.1.getD p 0 = 1000) (h1 : X1.1.getD (p + 1) 0 = 1001) : AMet l G yX2_writeBeta cX2_writeBeta 2 (none) (rmR 2 64) [.ref (G.1 23), .int (zI ((p : Nat) : Int))] c (Qv (fun c' => ∃ T', Ex G c' Q (Q + 1) (Q + 2) (Q + 3) T' ∧ RsX T' (x ++ pcB X1.1 p) ∧ (∀ k, k ≠ Q → k ≠ Q + 1 → k ≠ Q + 2 → k ≠ Q + 3 → c' k = c k))) := by
  refine AMet.of (vl := [some (.ref (G.1 23)), some (.int (zI ((p : Nat) : Int)))]) (by decide) hG (Nat.le_of_ble_eq_true rfl) rfl ?_
  intro K X
  have X : Fx l G K cX2_writeBeta 2 RX2 (none) (rmR 2 64) := X
  have hXB := hXG.xb
  have hl1 := hE.len
  have b1 := (XG_beta hXG hp h0 h1).2
  have bl1 := bh_le (l := X1.1) (s := p) 1 (by omega)
  have bg1 := bh_ge X1.1 p 1
  refine A_aload_n (q := 1) X dX2_writeBeta_0 rfl rfl ?_
  refine A_getf (q := 4) X fX2_18 dX2_writeBeta_1 (by omega) h23 rfl rfl ?_
  refine A_iconst (q := 5) X dX2_writeBeta_4 rfl ?_
  refine A_iconst (q := 6) X dX2_writeBeta_5 rfl ?_
  refine A_V2v (q := 9) X (c_X0_addClosure (n := 1) (k := 0) hG hE2 (by omega)) mX0_addClosure kX2_96 dX2_writeBeta_6 hE2.lt hE2.cell rfl (by decide) (Nat.le_of_ble_eq_true rfl) rfl (fun cq_2 hq_1 => ?_)
  obtain ⟨hE_3, hf_4⟩ := hq_1
  have hx_5 := RsX_add (clo 1 0) hx
  refine A_aload_n (q := 10) X dX2_writeBeta_9 rfl rfl ?_
  refine A_getf (q := 13) X fX2_18 dX2_writeBeta_10 (by omega) ((hf_4 _ (by omega) (by omega) (by omega) (by omega)).trans h23) rfl rfl ?_
  refine A_aload_n (q := 14) X dX2_writeBeta_13 rfl rfl ?_
  refine A_getf (q := 17) X fX2_12 dX2_writeBeta_14 (by omega) ((hf_4 _ (by omega) (by omega) (by omega) (by omega)).trans h23) rfl rfl ?_
  refine A_iload_n (q := 18) X dX2_writeBeta_17 rfl rfl ?_
  refine A_iconst (q := 19) X dX2_writeBeta_18 rfl ?_
  refine A_iadd (q := 20) X dX2_writeBeta_19 rfl ?_
  refine A_aload_n (q := 21) X dX2_writeBeta_20 rfl rfl ?_
  refine A_getf (q := 24) X fX2_12 dX2_writeBeta_21 (by omega) ((hf_4 _ (by omega) (by omega) (by omega) (by omega)).trans h23) rfl rfl ?_
  refine A_iload_n (q := 25) X dX2_writeBeta_24 rfl rfl ?_
  refine A_iconst (q := 26) X dX2_writeBeta_25 rfl ?_
  refine A_V2i (q := 29) X (c_X0_behind (s := (p)) (n0 := 1) hG (hE.keep ((hf_4 P (by omega) (by omega) (by omega) (by omega)).trans rfl) ((hf_4 (P + 1) (by omega) (by omega) (by omega) (by omega)).trans rfl) ((hf_4 (P + 2) (by omega) (by omega) (by omega) (by omega)).trans rfl) ((hf_4 (P + 3) (by omega) (by omega) (by omega) (by omega)).trans rfl)) hXB (by omega) (by omega)) mX0_behind kX2_93 dX2_writeBeta_26 hE.lt (hE.keep ((hf_4 P (by omega) (by omega) (by omega) (by omega)).trans rfl) ((hf_4 (P + 1) (by omega) (by omega) (by omega) (by omega)).trans rfl) ((hf_4 (P + 2) (by omega) (by omega) (by omega) (by omega)).trans rfl) ((hf_4 (P + 3) (by omega) (by omega) (by omega) (by omega)).trans rfl)).cell rfl (by decide) (Nat.le_of_ble_eq_true rfl) rfl (fun vq_8 cq_7 hq_6 => ?_)
  obtain ⟨rfl, hq_6⟩ := hq_6
  obtain rfl := hq_6.symm
  rw [show zI (((p : Nat) : Int) + 2) = zI ((((p) + 2) : Nat) : Int) from congrArg zI (by omega)]
  refine A_V3v (q := 32) X (c_X0_addRange (i := (((p) + 2))) (j := ((bh X1.1 (p) 1))) hG hE_3 (hE.keep ((hf_4 P (by omega) (by omega) (by omega) (by omega)).trans rfl) ((hf_4 (P + 1) (by omega) (by omega) (by omega) (by omega)).trans rfl) ((hf_4 (P + 2) (by omega) (by omega) (by omega) (by omega)).trans rfl) ((hf_4 (P + 3) (by omega) (by omega) (by omega) (by omega)).trans rfl)) (by omega) (by omega) (by omega) (by omega) (by omega) (by omega) (by omega) (by omega) (by omega) (by omega) (by omega) (by omega) (by omega) (by omega) (by omega) (by omega) (by omega) (by omega)) mX0_addRange kX2_74 dX2_writeBeta_29 hE2.lt hE_3.cell rfl (by decide) (Nat.le_of_ble_eq_true rfl) rfl (fun cq_10 hq_9 => ?_)
  obtain ⟨hE_11, hf_12⟩ := hq_9
  have hx_13 := RsX_range (l := X1.1) (i := (((p) + 2))) (j := ((bh X1.1 (p) 1))) hx_5 (by omega) (by omega)
  exact A_return X dX2_writeBeta_32 ⟨_, hE_11, RsX_eq hx_13 (by unfold pcB; simp only [List.append_assoc, List.cons_append, List.nil_append]), (fun k n0 n1 n2 n3 => ((hf_12 k (by omega) (by omega) (by omega) (by omega)).trans ((hf_4 k (by omega) (by omega) (by omega) (by omega)).trans rfl)))⟩
set_option maxRecDepth 100000 in
set_option maxHeartbeats 4000000 in
theorem c_X2_writeApply {l : Launch} {G : Gm} {c : HP} {P Q p : Nat} {pk : Int} {X1 T : List Int × Int} {x : List Int} (hG : injG G) (hN : G.2.1 = 72) (hPQ : (P = 24 ∧ Q = 28) ∨ (P = 28 ∧ Q = 24)) (h23 : c23 G c P Q pk) (hE : Ex G c P (P + 1) (P + 2) (P + 3) X1) (hXG : XG X1.1) (hE2 : Ex G c Q (Q + 1) (Q + 2) (Q + 3) T) (hx : RsX T x) (hp : p + 1 < X1.1.length) (h0 : 1000000 ≤ X1.1.getD p 0) (h1 : X1.1.getD (p + 1) 0 = 1000) : AMet l G yX2_writeApply cX2_writeApply 7 (none) (rmR 2 64) [.ref (G.1 23), .int (zI ((p : Nat) : Int))] c (Qv (fun c' => ∃ T', Ex G c' Q (Q + 1) (Q + 2) (Q + 3) T' ∧ RsX T' (x ++ pcA X1.1 p) ∧ (∀ k, k ≠ Q → k ≠ Q + 1 → k ≠ Q + 2 → k ≠ Q + 3 → c' k = c k))) := by
  refine AMet.of (vl := [some (.ref (G.1 23)), some (.int (zI ((p : Nat) : Int)))]) (by decide) hG (Nat.le_of_ble_eq_true rfl) rfl ?_
  intro K X
  have X : Fx l G K cX2_writeApply 7 RX2 (none) (rmR 2 64) := X
  have hXB := hXG.xb
  have hl1 := hE.len
  have nm := hXB.num (k := p) (by omega) h0
  have bl1 := bh_le (l := X1.1) (s := (p + 2)) 1 (by omega)
  have bg1 := bh_ge X1.1 (p + 2) 1
  have bl2 := bh_le (l := X1.1) (s := (p + 2)) 2 (by omega)
  have bg2 := bh_ge X1.1 (p + 2) 2
  have bl3 := bh_le (l := X1.1) (s := (p + 2)) (2 + (kn (X1.1.getD p 0))) (by omega)
  have bg3 := bh_ge X1.1 (p + 2) (2 + (kn (X1.1.getD p 0)))
  have bm1 := bh_mono X1.1 (p + 2) 1 1
  have bm2 := bh_mono X1.1 (p + 2) 2 (kn (X1.1.getD p 0))
  have bm1 : bh X1.1 (p + 2) 1 ≤ bh X1.1 (p + 2) 2 := bm1
  refine A_aload_n (q := 1) X dX2_writeApply_0 rfl rfl ?_
  refine A_getf (q := 4) X fX2_12 dX2_writeApply_1 (by omega) h23 rfl rfl ?_
  refine A_iload_n (q := 5) X dX2_writeApply_4 rfl rfl ?_
  refine A_V1i (q := 8) X (c_X0_entriesAt hG hE (by omega)) mX0_entriesAt kX2_99 dX2_writeApply_5 hE.lt hE.cell rfl (by decide) (Nat.le_of_ble_eq_true rfl) rfl (fun vq_3 cq_2 hq_1 => ?_)
  obtain ⟨rfl, hq_1⟩ := hq_1
  obtain rfl := hq_1.symm
  rw [eeA_in rfl (by omega), eeE_c h0]
  refine A_istore_n (q := 9) X dX2_writeApply_8 (by decide) (okP_s rfl rfl) rfl ?_
  refine A_aload_n (q := 10) X dX2_writeApply_9 rfl rfl ?_
  refine A_getf (q := 13) X fX2_12 dX2_writeApply_10 (by omega) h23 rfl rfl ?_
  refine A_iload_n (q := 14) X dX2_writeApply_13 rfl rfl ?_
  refine A_V1i (q := 17) X (c_X0_shiftAt hG hE (by omega)) mX0_shiftAt kX2_102 dX2_writeApply_14 hE.lt hE.cell rfl (by decide) (Nat.le_of_ble_eq_true rfl) rfl (fun vq_6 cq_5 hq_4 => ?_)
  obtain ⟨rfl, hq_4⟩ := hq_4
  obtain rfl := hq_4.symm
  rw [shA_in rfl (by omega), shE_c h0]
  refine A_istore_n (q := 18) X dX2_writeApply_17 (by decide) (okP_s rfl rfl) rfl ?_
  refine A_aload_n (q := 19) X dX2_writeApply_18 rfl rfl ?_
  refine A_getf (q := 22) X fX2_12 dX2_writeApply_19 (by omega) h23 rfl rfl ?_
  refine A_iload_n (q := 23) X dX2_writeApply_22 rfl rfl ?_
  refine A_iconst (q := 24) X dX2_writeApply_23 rfl ?_
  refine A_iadd (q := 25) X dX2_writeApply_24 rfl ?_
  refine A_iconst (q := 26) X dX2_writeApply_25 rfl ?_
  rw [show zI (((p : Nat) : Int) + 2) = zI ((((p) + 2) : Nat) : Int) from congrArg zI (by omega)]
  refine A_V2i (q := 29) X (c_X0_behind (s := (((p) + 2))) (n0 := 1) hG hE hXB (by omega) (by omega)) mX0_behind kX2_93 dX2_writeApply_26 hE.lt hE.cell rfl (by decide) (Nat.le_of_ble_eq_true rfl) rfl (fun vq_9 cq_8 hq_7 => ?_)
  obtain ⟨rfl, hq_7⟩ := hq_7
  obtain rfl := hq_7.symm
  refine A_istore (q := 31) X dX2_writeApply_29 (by decide) (okP_s rfl rfl) rfl ?_
  refine A_aload_n (q := 32) X dX2_writeApply_31 rfl rfl ?_
  refine A_getf (q := 35) X fX2_12 dX2_writeApply_32 (by omega) h23 rfl rfl ?_
  refine A_iload (q := 37) X dX2_writeApply_35 rfl rfl ?_
  refine A_iconst (q := 38) X dX2_writeApply_37 rfl ?_
  refine A_V2i (q := 41) X (c_X0_behind (s := ((bh X1.1 (((p) + 2)) 1))) (n0 := 1) hG hE hXB (by omega) (by omega)) mX0_behind kX2_93 dX2_writeApply_38 hE.lt hE.cell rfl (by decide) (Nat.le_of_ble_eq_true rfl) rfl (fun vq_12 cq_11 hq_10 => ?_)
  obtain ⟨rfl, hq_10⟩ := hq_10
  obtain rfl := hq_10.symm
  rw [show bh X1.1 (bh X1.1 (p + 2) 1) 1 = bh X1.1 (p + 2) 2 from (bh_add X1.1 (p + 2) 1 1).symm]
  refine A_istore (q := 43) X dX2_writeApply_41 (by decide) (okP_s rfl rfl) rfl ?_
  refine A_aload_n (q := 44) X dX2_writeApply_43 rfl rfl ?_
  refine A_getf (q := 47) X fX2_12 dX2_writeApply_44 (by omega) h23 rfl rfl ?_
  refine A_iload (q := 49) X dX2_writeApply_47 rfl rfl ?_
  refine A_iload_n (q := 50) X dX2_writeApply_49 rfl rfl ?_
  refine A_V2i (q := 53) X (c_X0_behind (s := ((bh X1.1 (p + 2) 2))) (n0 := ((kn (X1.1.getD p 0)))) hG hE hXB (by omega) (by omega)) mX0_behind kX2_93 dX2_writeApply_50 hE.lt hE.cell rfl (by decide) (Nat.le_of_ble_eq_true rfl) rfl (fun vq_15 cq_14 hq_13 => ?_)
  obtain ⟨rfl, hq_13⟩ := hq_13
  obtain rfl := hq_13.symm
  rw [show bh X1.1 (bh X1.1 (p + 2) 2) (kn (X1.1.getD p 0)) = bh X1.1 (p + 2) (2 + (kn (X1.1.getD p 0))) from (bh_add X1.1 (p + 2) 2 _).symm]
  refine A_istore (q := 55) X dX2_writeApply_53 (by decide) (okP_s rfl rfl) rfl ?_
  refine A_aload_n (q := 56) X dX2_writeApply_55 rfl rfl ?_
  refine A_getf (q := 59) X fX2_18 dX2_writeApply_56 (by omega) h23 rfl rfl ?_
  refine A_sipush (q := 62) X dX2_writeApply_59 (by decide) rfl ?_
  refine A_V1v (q := 65) X (c_X0_add (t := 1000) hG hE2 (by omega)) mX0_add kX2_69 dX2_writeApply_62 hE2.lt hE2.cell rfl (by decide) (Nat.le_of_ble_eq_true rfl) rfl (fun cq_17 hq_16 => ?_)
  obtain ⟨hE_18, hf_19⟩ := hq_16
  have hx_20 := RsX_add 1000 hx
  refine A_aload_n (q := 66) X dX2_writeApply_65 rfl rfl ?_
  refine A_getf (q := 69) X fX2_18 dX2_writeApply_66 (by omega) ((hf_19 _ (by omega) (by omega) (by omega) (by omega)).trans h23) rfl rfl ?_
  refine A_iload_n (q := 70) X dX2_writeApply_69 rfl rfl ?_
  refine A_iload_n (q := 71) X dX2_writeApply_70 rfl rfl ?_
  refine A_V2v (q := 74) X (c_X0_addClosure (n := ((kn (X1.1.getD p 0)))) (k := ((kh (X1.1.getD p 0)))) hG hE_18 (by omega)) mX0_addClosure kX2_96 dX2_writeApply_71 hE2.lt hE_18.cell rfl (by decide) (Nat.le_of_ble_eq_true rfl) rfl (fun cq_22 hq_21 => ?_)
  obtain ⟨hE_23, hf_24⟩ := hq_21
  have hx_25 := RsX_add (clo ((kn (X1.1.getD p 0))) ((kh (X1.1.getD p 0)))) hx_20
  refine A_aload_n (q := 75) X dX2_writeApply_74 rfl rfl ?_
  refine A_getf (q := 78) X fX2_18 dX2_writeApply_75 (by omega) ((hf_24 _ (by omega) (by omega) (by omega) (by omega)).trans ((hf_19 _ (by omega) (by omega) (by omega) (by omega)).trans h23)) rfl rfl ?_
  refine A_aload_n (q := 79) X dX2_writeApply_78 rfl rfl ?_
  refine A_getf (q := 82) X fX2_12 dX2_writeApply_79 (by omega) ((hf_24 _ (by omega) (by omega) (by omega) (by omega)).trans ((hf_19 _ (by omega) (by omega) (by omega) (by omega)).trans h23)) rfl rfl ?_
  refine A_iload_n (q := 83) X dX2_writeApply_82 rfl rfl ?_
  refine A_iconst (q := 84) X dX2_writeApply_83 rfl ?_
  refine A_iadd (q := 85) X dX2_writeApply_84 rfl ?_
  refine A_iload (q := 87) X dX2_writeApply_85 rfl rfl ?_
  rw [show zI (((p : Nat) : Int) + 2) = zI ((((p) + 2) : Nat) : Int) from congrArg zI (by omega)]
  refine A_V3v (q := 90) X (c_X0_addRange (i := (((p) + 2))) (j := ((bh X1.1 (((p) + 2)) 1))) hG hE_23 (hE.keep ((hf_24 P (by omega) (by omega) (by omega) (by omega)).trans ((hf_19 P (by omega) (by omega) (by omega) (by omega)).trans rfl)) ((hf_24 (P + 1) (by omega) (by omega) (by omega) (by omega)).trans ((hf_19 (P + 1) (by omega) (by omega) (by omega) (by omega)).trans rfl)) ((hf_24 (P + 2) (by omega) (by omega) (by omega) (by omega)).trans ((hf_19 (P + 2) (by omega) (by omega) (by omega) (by omega)).trans rfl)) ((hf_24 (P + 3) (by omega) (by omega) (by omega) (by omega)).trans ((hf_19 (P + 3) (by omega) (by omega) (by omega) (by omega)).trans rfl))) (by omega) (by omega) (by omega) (by omega) (by omega) (by omega) (by omega) (by omega) (by omega) (by omega) (by omega) (by omega) (by omega) (by omega) (by omega) (by omega) (by omega) (by omega)) mX0_addRange kX2_74 dX2_writeApply_87 hE2.lt hE_23.cell rfl (by decide) (Nat.le_of_ble_eq_true rfl) rfl (fun cq_27 hq_26 => ?_)
  obtain ⟨hE_28, hf_29⟩ := hq_26
  have hx_30 := RsX_range (l := X1.1) (i := (((p) + 2))) (j := ((bh X1.1 (((p) + 2)) 1))) hx_25 (by omega) (by omega)
  refine A_aload_n (q := 91) X dX2_writeApply_90 rfl rfl ?_
  refine A_getf (q := 94) X fX2_18 dX2_writeApply_91 (by omega) ((hf_29 _ (by omega) (by omega) (by omega) (by omega)).trans ((hf_24 _ (by omega) (by omega) (by omega) (by omega)).trans ((hf_19 _ (by omega) (by omega) (by omega) (by omega)).trans h23))) rfl rfl ?_
  refine A_aload_n (q := 95) X dX2_writeApply_94 rfl rfl ?_
  refine A_getf (q := 98) X fX2_12 dX2_writeApply_95 (by omega) ((hf_29 _ (by omega) (by omega) (by omega) (by omega)).trans ((hf_24 _ (by omega) (by omega) (by omega) (by omega)).trans ((hf_19 _ (by omega) (by omega) (by omega) (by omega)).trans h23))) rfl rfl ?_
  refine A_iload (q := 100) X dX2_writeApply_98 rfl rfl ?_
  refine A_iload (q := 102) X dX2_writeApply_100 rfl rfl ?_
  refine A_V3v (q := 105) X (c_X0_addRange (i := ((bh X1.1 (p + 2) 2))) (j := ((bh X1.1 (p + 2) (2 + (kn (X1.1.getD p 0)))))) hG hE_28 (hE.keep ((hf_29 P (by omega) (by omega) (by omega) (by omega)).trans ((hf_24 P (by omega) (by omega) (by omega) (by omega)).trans ((hf_19 P (by omega) (by omega) (by omega) (by omega)).trans rfl))) ((hf_29 (P + 1) (by omega) (by omega) (by omega) (by omega)).trans ((hf_24 (P + 1) (by omega) (by omega) (by omega) (by omega)).trans ((hf_19 (P + 1) (by omega) (by omega) (by omega) (by omega)).trans rfl))) ((hf_29 (P + 2) (by omega) (by omega) (by omega) (by omega)).trans ((hf_24 (P + 2) (by omega) (by omega) (by omega) (by omega)).trans ((hf_19 (P + 2) (by omega) (by omega) (by omega) (by omega)).trans rfl))) ((hf_29 (P + 3) (by omega) (by omega) (by omega) (by omega)).trans ((hf_24 (P + 3) (by omega) (by omega) (by omega) (by omega)).trans ((hf_19 (P + 3) (by omega) (by omega) (by omega) (by omega)).trans rfl)))) (by omega) (by omega) (by omega) (by omega) (by omega) (by omega) (by omega) (by omega) (by omega) (by omega) (by omega) (by omega) (by omega) (by omega) (by omega) (by omega) (by omega) (by omega)) mX0_addRange kX2_74 dX2_writeApply_102 hE2.lt hE_28.cell rfl (by decide) (Nat.le_of_ble_eq_true rfl) rfl (fun cq_32 hq_31 => ?_)
  obtain ⟨hE_33, hf_34⟩ := hq_31
  have hx_35 := RsX_range (l := X1.1) (i := ((bh X1.1 (p + 2) 2))) (j := ((bh X1.1 (p + 2) (2 + (kn (X1.1.getD p 0)))))) hx_30 (by omega) (by omega)
  refine A_aload_n (q := 106) X dX2_writeApply_105 rfl rfl ?_
  refine A_getf (q := 109) X fX2_18 dX2_writeApply_106 (by omega) ((hf_34 _ (by omega) (by omega) (by omega) (by omega)).trans ((hf_29 _ (by omega) (by omega) (by omega) (by omega)).trans ((hf_24 _ (by omega) (by omega) (by omega) (by omega)).trans ((hf_19 _ (by omega) (by omega) (by omega) (by omega)).trans h23)))) rfl rfl ?_
  refine A_iload_n (q := 110) X dX2_writeApply_109 rfl rfl ?_
  refine A_iload_n (q := 111) X dX2_writeApply_110 rfl rfl ?_
  refine A_V2v (q := 114) X (c_X0_addClosure (n := ((kn (X1.1.getD p 0)))) (k := ((kh (X1.1.getD p 0)))) hG hE_33 (by omega)) mX0_addClosure kX2_96 dX2_writeApply_111 hE2.lt hE_33.cell rfl (by decide) (Nat.le_of_ble_eq_true rfl) rfl (fun cq_37 hq_36 => ?_)
  obtain ⟨hE_38, hf_39⟩ := hq_36
  have hx_40 := RsX_add (clo ((kn (X1.1.getD p 0))) ((kh (X1.1.getD p 0)))) hx_35
  refine A_aload_n (q := 115) X dX2_writeApply_114 rfl rfl ?_
  refine A_getf (q := 118) X fX2_18 dX2_writeApply_115 (by omega) ((hf_39 _ (by omega) (by omega) (by omega) (by omega)).trans ((hf_34 _ (by omega) (by omega) (by omega) (by omega)).trans ((hf_29 _ (by omega) (by omega) (by omega) (by omega)).trans ((hf_24 _ (by omega) (by omega) (by omega) (by omega)).trans ((hf_19 _ (by omega) (by omega) (by omega) (by omega)).trans h23))))) rfl rfl ?_
  refine A_aload_n (q := 119) X dX2_writeApply_118 rfl rfl ?_
  refine A_getf (q := 122) X fX2_12 dX2_writeApply_119 (by omega) ((hf_39 _ (by omega) (by omega) (by omega) (by omega)).trans ((hf_34 _ (by omega) (by omega) (by omega) (by omega)).trans ((hf_29 _ (by omega) (by omega) (by omega) (by omega)).trans ((hf_24 _ (by omega) (by omega) (by omega) (by omega)).trans ((hf_19 _ (by omega) (by omega) (by omega) (by omega)).trans h23))))) rfl rfl ?_
  refine A_iload (q := 124) X dX2_writeApply_122 rfl rfl ?_
  refine A_iload (q := 126) X dX2_writeApply_124 rfl rfl ?_
  refine A_V3v (q := 129) X (c_X0_addRange (i := ((bh X1.1 (((p) + 2)) 1))) (j := ((bh X1.1 (p + 2) (2 + (kn (X1.1.getD p 0)))))) hG hE_38 (hE.keep ((hf_39 P (by omega) (by omega) (by omega) (by omega)).trans ((hf_34 P (by omega) (by omega) (by omega) (by omega)).trans ((hf_29 P (by omega) (by omega) (by omega) (by omega)).trans ((hf_24 P (by omega) (by omega) (by omega) (by omega)).trans ((hf_19 P (by omega) (by omega) (by omega) (by omega)).trans rfl))))) ((hf_39 (P + 1) (by omega) (by omega) (by omega) (by omega)).trans ((hf_34 (P + 1) (by omega) (by omega) (by omega) (by omega)).trans ((hf_29 (P + 1) (by omega) (by omega) (by omega) (by omega)).trans ((hf_24 (P + 1) (by omega) (by omega) (by omega) (by omega)).trans ((hf_19 (P + 1) (by omega) (by omega) (by omega) (by omega)).trans rfl))))) ((hf_39 (P + 2) (by omega) (by omega) (by omega) (by omega)).trans ((hf_34 (P + 2) (by omega) (by omega) (by omega) (by omega)).trans ((hf_29 (P + 2) (by omega) (by omega) (by omega) (by omega)).trans ((hf_24 (P + 2) (by omega) (by omega) (by omega) (by omega)).trans ((hf_19 (P + 2) (by omega) (by omega) (by omega) (by omega)).trans rfl))))) ((hf_39 (P + 3) (by omega) (by omega) (by omega) (by omega)).trans ((hf_34 (P + 3) (by omega) (by omega) (by omega) (by omega)).trans ((hf_29 (P + 3) (by omega) (by omega) (by omega) (by omega)).trans ((hf_24 (P + 3) (by omega) (by omega) (by omega) (by omega)).trans ((hf_19 (P + 3) (by omega) (by omega) (by omega) (by omega)).trans rfl)))))) (by omega) (by omega) (by omega) (by omega) (by omega) (by omega) (by omega) (by omega) (by omega) (by omega) (by omega) (by omega) (by omega) (by omega) (by omega) (by omega) (by omega) (by omega)) mX0_addRange kX2_74 dX2_writeApply_126 hE2.lt hE_38.cell rfl (by decide) (Nat.le_of_ble_eq_true rfl) rfl (fun cq_42 hq_41 => ?_)
  obtain ⟨hE_43, hf_44⟩ := hq_41
  have hx_45 := RsX_range (l := X1.1) (i := ((bh X1.1 (((p) + 2)) 1))) (j := ((bh X1.1 (p + 2) (2 + (kn (X1.1.getD p 0)))))) hx_40 (by omega) (by omega)
  exact A_return X dX2_writeApply_129 ⟨_, hE_43, RsX_eq hx_45 (by unfold pcA; rw [clo_of h0]; simp only [List.append_assoc, List.cons_append, List.nil_append]), (fun k n0 n1 n2 n3 => ((hf_44 k (by omega) (by omega) (by omega) (by omega)).trans ((hf_39 k (by omega) (by omega) (by omega) (by omega)).trans ((hf_34 k (by omega) (by omega) (by omega) (by omega)).trans ((hf_29 k (by omega) (by omega) (by omega) (by omega)).trans ((hf_24 k (by omega) (by omega) (by omega) (by omega)).trans ((hf_19 k (by omega) (by omega) (by omega) (by omega)).trans rfl)))))))⟩
set_option maxRecDepth 100000 in
set_option maxHeartbeats 4000000 in
theorem c_X2_writeLookup {l : Launch} {G : Gm} {c : HP} {P Q p : Nat} {pk : Int} {X1 T : List Int × Int} {x : List Int} (hG : injG G) (hN : G.2.1 = 72) (hPQ : (P = 24 ∧ Q = 28) ∨ (P = 28 ∧ Q = 24)) (h23 : c23 G c P Q pk) (hE : Ex G c P (P + 1) (P + 2) (P + 3) X1) (hXG : XG X1.1) (hE2 : Ex G c Q (Q + 1) (Q + 2) (Q + 3) T) (hx : RsX T x) (hp : p + 1 < X1.1.length) (h0 : 1000000 ≤ X1.1.getD p 0) (h1 : 0 ≤ X1.1.getD (p + 1) 0 ∧ X1.1.getD (p + 1) 0 < 310) : AMet l G yX2_writeLookup cX2_writeLookup 5 (none) (rmR 2 64) [.ref (G.1 23), .int (zI ((p : Nat) : Int))] c (Qv (fun c' => ∃ T', Ex G c' Q (Q + 1) (Q + 2) (Q + 3) T' ∧ RsX T' (x ++ pcK X1.1 p) ∧ (∀ k, k ≠ Q → k ≠ Q + 1 → k ≠ Q + 2 → k ≠ Q + 3 → c' k = c k))) := by
  refine AMet.of (vl := [some (.ref (G.1 23)), some (.int (zI ((p : Nat) : Int)))]) (by decide) hG (Nat.le_of_ble_eq_true rfl) rfl ?_
  intro K X
  have X : Fx l G K cX2_writeLookup 5 RX2 (none) (rmR 2 64) := X
  have hXB := hXG.xb
  have hl1 := hE.len
  have nm := hXB.num (k := p) (by omega) h0
  refine A_aload_n (q := 1) X dX2_writeLookup_0 rfl rfl ?_
  refine A_getf (q := 4) X fX2_12 dX2_writeLookup_1 (by omega) h23 rfl rfl ?_
  refine A_iload_n (q := 5) X dX2_writeLookup_4 rfl rfl ?_
  refine A_V1i (q := 8) X (c_X0_entriesAt hG hE (by omega)) mX0_entriesAt kX2_99 dX2_writeLookup_5 hE.lt hE.cell rfl (by decide) (Nat.le_of_ble_eq_true rfl) rfl (fun vq_3 cq_2 hq_1 => ?_)
  obtain ⟨rfl, hq_1⟩ := hq_1
  obtain rfl := hq_1.symm
  rw [eeA_in rfl (by omega), eeE_c h0]
  refine A_istore_n (q := 9) X dX2_writeLookup_8 (by decide) (okP_s rfl rfl) rfl ?_
  refine A_aload_n (q := 10) X dX2_writeLookup_9 rfl rfl ?_
  refine A_getf (q := 13) X fX2_12 dX2_writeLookup_10 (by omega) h23 rfl rfl ?_
  refine A_iload_n (q := 14) X dX2_writeLookup_13 rfl rfl ?_
  refine A_iconst (q := 15) X dX2_writeLookup_14 rfl ?_
  refine A_iadd (q := 16) X dX2_writeLookup_15 rfl ?_
  refine A_V1i (q := 19) X (c_X0_token hG hE (by omega)) mX0_token kX2_73 dX2_writeLookup_16 hE.lt hE.cell rfl (by decide) (Nat.le_of_ble_eq_true rfl) rfl (fun vq_6 cq_5 hq_4 => ?_)
  obtain ⟨rfl, hq_4⟩ := hq_4
  obtain rfl := hq_4.symm
  rw [tkA_in (k := p + 1) (by omega) hp, tkE_p (by omega)]
  refine A_istore_n (q := 20) X dX2_writeLookup_19 (by decide) (okP_s rfl rfl) rfl ?_
  refine A_iload_n (q := 21) X dX2_writeLookup_20 rfl rfl ?_
  refine A_iload_n (q := 22) X dX2_writeLookup_21 rfl rfl ?_
  refine A_icmp_ge (q := 25) (t := 64) X dX2_writeLookup_22 (by omega) (by omega) rfl rfl (fun hb22 => ?_) (fun hb22 => ?_)
  · refine A_aload_n (q := 65) X dX2_writeLookup_64 rfl rfl ?_
    refine A_getf (q := 68) X fX2_18 dX2_writeLookup_65 (by omega) h23 rfl rfl ?_
    refine A_iload_n (q := 69) X dX2_writeLookup_68 rfl rfl ?_
    refine A_iload_n (q := 70) X dX2_writeLookup_69 rfl rfl ?_
    refine A_isub (q := 71) X dX2_writeLookup_70 rfl ?_
    refine A_aload_n (q := 72) X dX2_writeLookup_71 rfl rfl ?_
    refine A_getf (q := 75) X fX2_12 dX2_writeLookup_72 (by omega) h23 rfl rfl ?_
    refine A_iload_n (q := 76) X dX2_writeLookup_75 rfl rfl ?_
    refine A_V1i (q := 79) X (c_X0_shiftAt hG hE (by omega)) mX0_shiftAt kX2_102 dX2_writeLookup_76 hE.lt hE.cell rfl (by decide) (Nat.le_of_ble_eq_true rfl) rfl (fun vq_9 cq_8 hq_7 => ?_)
    obtain ⟨rfl, hq_7⟩ := hq_7
    obtain rfl := hq_7.symm
    rw [shA_in rfl (by omega), shE_c h0]
    refine A_iadd (q := 80) X dX2_writeLookup_79 rfl ?_
    refine A_V1v (q := 83) X (c_X0_add (t := (((X1.1.getD (p + 1) 0) - (((kn (X1.1.getD p 0)) : Nat) : Int)) + (((kh (X1.1.getD p 0)) : Nat) : Int))) hG hE2 (by omega)) mX0_add kX2_69 dX2_writeLookup_80 hE2.lt hE2.cell rfl (by decide) (Nat.le_of_ble_eq_true rfl) rfl (fun cq_11 hq_10 => ?_)
    obtain ⟨hE_12, hf_13⟩ := hq_10
    have hx_14 := RsX_add (((X1.1.getD (p + 1) 0) - (((kn (X1.1.getD p 0)) : Nat) : Int)) + (((kh (X1.1.getD p 0)) : Nat) : Int)) hx
    exact A_return X dX2_writeLookup_83 ⟨_, hE_12, RsX_eq hx_14 (by unfold pcK; rw [if_neg (by omega)]), (fun k n0 n1 n2 n3 => ((hf_13 k (by omega) (by omega) (by omega) (by omega)).trans rfl))⟩
  · have bl1 := bh_le (l := X1.1) (s := p + 2) (X1.1.getD (p + 1) 0).toNat (by omega)
    have bl2 := bh_le (l := X1.1) (s := p + 2) ((X1.1.getD (p + 1) 0).toNat + 1) (by omega)
    have bm := bh_mono X1.1 (p + 2) (X1.1.getD (p + 1) 0).toNat 1
    refine A_aload_n (q := 26) X dX2_writeLookup_25 rfl rfl ?_
    refine A_getf (q := 29) X fX2_12 dX2_writeLookup_26 (by omega) h23 rfl rfl ?_
    refine A_iload_n (q := 30) X dX2_writeLookup_29 rfl rfl ?_
    refine A_iconst (q := 31) X dX2_writeLookup_30 rfl ?_
    refine A_iadd (q := 32) X dX2_writeLookup_31 rfl ?_
    refine A_iload_n (q := 33) X dX2_writeLookup_32 rfl rfl ?_
    obtain ⟨ix, hix⟩ : ∃ ix : Nat, X1.1.getD (p + 1) 0 = ((ix : Nat) : Int) := ⟨(X1.1.getD (p + 1) 0).toNat, by omega⟩
    have hix2 : (X1.1.getD (p + 1) 0).toNat = ix := by omega
    rw [hix2] at bl1 bl2 bm
    have e33 : ∀ z : Int, z = X1.1.getD (p + 1) 0 → zI z = zI ((ix : Nat) : Int) := fun z hz => by rw [hz, hix]
    rw [e33 _ rfl]
    rw [show zI (((p : Nat) : Int) + 2) = zI ((((p) + 2) : Nat) : Int) from congrArg zI (by omega)]
    refine A_V2i (q := 36) X (c_X0_behind (s := (((p) + 2))) (n0 := (ix)) hG hE hXB (by omega) (by omega)) mX0_behind kX2_93 dX2_writeLookup_33 hE.lt hE.cell rfl (by decide) (Nat.le_of_ble_eq_true rfl) rfl (fun vq_17 cq_16 hq_15 => ?_)
    obtain ⟨rfl, hq_15⟩ := hq_15
    obtain rfl := hq_15.symm
    refine A_istore (q := 38) X dX2_writeLookup_36 (by decide) (okP_s rfl rfl) rfl ?_
    refine A_aload_n (q := 39) X dX2_writeLookup_38 rfl rfl ?_
    refine A_getf (q := 42) X fX2_18 dX2_writeLookup_39 (by omega) h23 rfl rfl ?_
    refine A_aload_n (q := 43) X dX2_writeLookup_42 rfl rfl ?_
    refine A_getf (q := 46) X fX2_12 dX2_writeLookup_43 (by omega) h23 rfl rfl ?_
    refine A_iload (q := 48) X dX2_writeLookup_46 rfl rfl ?_
    refine A_aload_n (q := 49) X dX2_writeLookup_48 rfl rfl ?_
    refine A_getf (q := 52) X fX2_12 dX2_writeLookup_49 (by omega) h23 rfl rfl ?_
    refine A_iload (q := 54) X dX2_writeLookup_52 rfl rfl ?_
    refine A_iconst (q := 55) X dX2_writeLookup_54 rfl ?_
    refine A_V2i (q := 58) X (c_X0_behind (s := ((bh X1.1 (((p) + 2)) (ix)))) (n0 := 1) hG hE hXB (by omega) (by omega)) mX0_behind kX2_93 dX2_writeLookup_55 hE.lt hE.cell rfl (by decide) (Nat.le_of_ble_eq_true rfl) rfl (fun vq_20 cq_19 hq_18 => ?_)
    obtain ⟨rfl, hq_18⟩ := hq_18
    obtain rfl := hq_18.symm
    rw [show bh X1.1 (bh X1.1 (p + 2) ix) 1 = bh X1.1 (p + 2) (ix + 1) from (bh_add X1.1 (p + 2) ix 1).symm]
    refine A_V3v (q := 61) X (c_X0_addRange (i := ((bh X1.1 (((p) + 2)) (ix)))) (j := ((bh X1.1 (p + 2) (ix + 1)))) hG hE2 hE (by omega) (by omega) (by omega) (by omega) (by omega) (by omega) (by omega) (by omega) (by omega) (by omega) (by omega) (by omega) (by omega) (by omega) (by omega) (by omega) (by omega) (by omega)) mX0_addRange kX2_74 dX2_writeLookup_58 hE2.lt hE2.cell rfl (by decide) (Nat.le_of_ble_eq_true rfl) rfl (fun cq_22 hq_21 => ?_)
    obtain ⟨hE_23, hf_24⟩ := hq_21
    have hx_25 := RsX_range (l := X1.1) (i := ((bh X1.1 (((p) + 2)) (ix)))) (j := ((bh X1.1 (p + 2) (ix + 1)))) hx (by omega) (by omega)
    refine A_goto (q := 83) X dX2_writeLookup_61 rfl ?_
    exact A_return X dX2_writeLookup_83 ⟨_, hE_23, RsX_eq hx_25 (by unfold pcK; rw [if_pos (by omega), hix2]), (fun k n0 n1 n2 n3 => ((hf_24 k (by omega) (by omega) (by omega) (by omega)).trans rfl))⟩
theorem abE_mono (l : List Int) (f i : Nat) : ∀ n, (abE l f i).length ≤ (abE l f (i + n)).length
  | 0 => Nat.le_refl _
  | n + 1 => by
    have := abE_mono l f i n
    show _ ≤ (abE l f (i + n) ++ _).length
    rw [List.length_append]
    omega
theorem mgE_mono (l : List Int) (b : Nat) (t : Int) (os oe i : Nat) : ∀ n, (mgE l b t os oe i).length ≤ (mgE l b t os oe (i + n)).length
  | 0 => Nat.le_refl _
  | n + 1 => by
    have := mgE_mono l b t os oe i n
    show _ ≤ (mgE l b t os oe (i + n) ++ _).length
    rw [List.length_append]
    omega
set_option maxRecDepth 100000 in
set_option maxHeartbeats 4000000 in
theorem lp_X2_writeAbstract {l : Launch} {G : Gm} {K : Cx} {c0 : HP} {P Q p : Nat} {pk : Int} {X1 : List Int × Int} {x : List Int} (X : Fx l G K cX2_writeAbstract 6 RX2 (none) (rmR 2 64)) (hG : injG G) (hN : G.2.1 = 72) (hPQ : (P = 24 ∧ Q = 28) ∨ (P = 28 ∧ Q = 24)) (h230 : c23 G c0 P Q pk) (hE0 : Ex G c0 P (P + 1) (P + 2) (P + 3) X1) (hXG : XG X1.1) (hp : p + 1 < X1.1.length) (h0 : 1000000 ≤ X1.1.getD p 0) : ∀ (n : Nat) (i : Nat) (T : List Int × Int) (c : HP), (kn (X1.1.getD p 0)) - i < n → i ≤ (kn (X1.1.getD p 0)) → Ex G c Q (Q + 1) (Q + 2) (Q + 3) T → RsX T ((x ++ (1001 :: clo ((kn (X1.1.getD p 0)) + 1) ((kh (X1.1.getD p 0)) + 1) :: (sl X1.1 (p + 2) (bh X1.1 (p + 2) 1) ++ [0]))) ++ abE X1.1 (bh X1.1 (p + 2) 1) i) → (∀ k, k ≠ Q → k ≠ Q + 1 → k ≠ Q + 2 → k ≠ Q + 3 → c k = c0 k) → AW G K (Qv (fun c' => ∃ T', Ex G c' Q (Q + 1) (Q + 2) (Q + 3) T' ∧ RsX T' (x ++ pcL X1.1 p) ∧ (∀ k, k ≠ Q → k ≠ Q + 1 → k ≠ Q + 2 → k ≠ Q + 3 → c' k = c0 k))) 77 (mkL [some (.ref (G.1 23)), some (.int (zI ((p : Nat) : Int))), some (.int (zI (((kn (X1.1.getD p 0)) : Nat) : Int))), some (.int (zI (((bh X1.1 (bh X1.1 (p + 2) 1) i) : Nat) : Int))), some (.int (zI ((i : Nat) : Int))), none]) [] c := by
  intro n
  induction n with
  | zero => intro i T c hmz; exact absurd hmz (Nat.not_lt_zero _)
  | succ n ih =>
    intro i T c hmz hi hE2 hx hf0
    have h23 := (hf0 23 (by omega) (by omega) (by omega) (by omega)).trans h230
    have hE := hE0.keep (hf0 P (by omega) (by omega) (by omega) (by omega)) (hf0 (P + 1) (by omega) (by omega) (by omega) (by omega)) (hf0 (P + 2) (by omega) (by omega) (by omega) (by omega)) (hf0 (P + 3) (by omega) (by omega) (by omega) (by omega))
    have hXB := hXG.xb
    have hl1 := hE.len
    have nm := hXB.num (k := p) (by omega) h0
    have blf := bh_le (l := X1.1) (s := p + 2) 1 (by omega)
    refine A_iload (q := 79) X dX2_writeAbstract_77 rfl rfl ?_
    refine A_iload_n (q := 80) X dX2_writeAbstract_79 rfl rfl ?_
    refine A_icmp_ge (q := 83) (t := 136) X dX2_writeAbstract_80 (by omega) (by omega) rfl rfl (fun hb80 => ?_) (fun hb80 => ?_)
    · have ei : i = (kn (X1.1.getD p 0)) := by omega
      rw [ei] at hx
      exact A_return X dX2_writeAbstract_136 ⟨T, hE2, RsX_eq hx (by unfold pcL; simp only [List.append_assoc, List.cons_append, List.nil_append]), hf0⟩
    · refine A_aload_n (q := 84) X dX2_writeAbstract_83 rfl rfl ?_
      refine A_getf (q := 87) X fX2_18 dX2_writeAbstract_84 (by omega) h23 rfl rfl ?_
      refine A_V0i (q := 90) X (c_X0_isTooLarge hG hE2) mX0_isTooLarge kX2_45 dX2_writeAbstract_87 hE2.lt hE2.cell rfl (by decide) (Nat.le_of_ble_eq_true rfl) rfl (fun vq_3 cq_2 hq_1 => ?_)
      obtain ⟨rfl, hq_1⟩ := hq_1
      obtain rfl := hq_1.symm
      have hb01 := hE2.b01
      refine A_if_ne (q := 93) (t := 136) X dX2_writeAbstract_90 (by omega) rfl rfl (fun hb90 => ?_) (fun hb90 => ?_)
      · refine A_return X dX2_writeAbstract_136 ⟨T, hE2, RsX_big hx (by omega) ?_, hf0⟩
        have hm := abE_mono X1.1 (bh X1.1 (p + 2) 1) i ((kn (X1.1.getD p 0)) - i)
        rw [show i + ((kn (X1.1.getD p 0)) - i) = (kn (X1.1.getD p 0)) by omega] at hm
        unfold pcL
        simp only [List.length_append, List.length_cons, List.length_nil] at *
        omega
      · have bl1 := bh_le (l := X1.1) (s := (bh X1.1 (p + 2) 1)) i (by omega)
        have bl2 := bh_le (l := X1.1) (s := (bh X1.1 (p + 2) 1)) (i + 1) (by omega)
        have bm := bh_mono X1.1 (bh X1.1 (p + 2) 1) i 1
        refine A_aload_n (q := 94) X dX2_writeAbstract_93 rfl rfl ?_
        refine A_getf (q := 97) X fX2_12 dX2_writeAbstract_94 (by omega) h23 rfl rfl ?_
        refine A_iload_n (q := 98) X dX2_writeAbstract_97 rfl rfl ?_
        refine A_iconst (q := 99) X dX2_writeAbstract_98 rfl ?_
        refine A_V2i (q := 102) X (c_X0_behind (s := ((bh X1.1 (bh X1.1 (p + 2) 1) i))) (n0 := 1) hG hE hXB (by omega) (by omega)) mX0_behind kX2_93 dX2_writeAbstract_99 hE.lt hE.cell rfl (by decide) (Nat.le_of_ble_eq_true rfl) rfl (fun vq_6 cq_5 hq_4 => ?_)
        obtain ⟨rfl, hq_4⟩ := hq_4
        obtain rfl := hq_4.symm
        rw [show bh X1.1 (bh X1.1 (bh X1.1 (p + 2) 1) i) 1 = bh X1.1 (bh X1.1 (p + 2) 1) (i + 1) from (bh_add X1.1 (bh X1.1 (p + 2) 1) i 1).symm]
        refine A_istore (q := 104) X dX2_writeAbstract_102 (by decide) (okP_s rfl rfl) rfl ?_
        refine A_aload_n (q := 105) X dX2_writeAbstract_104 rfl rfl ?_
        refine A_getf (q := 108) X fX2_18 dX2_writeAbstract_105 (by omega) h23 rfl rfl ?_
        refine A_iconst (q := 109) X dX2_writeAbstract_108 rfl ?_
        refine A_iconst (q := 110) X dX2_writeAbstract_109 rfl ?_
        refine A_V2v (q := 113) X (c_X0_addClosure (n := 0) (k := 1) hG hE2 (by omega)) mX0_addClosure kX2_96 dX2_writeAbstract_110 hE2.lt hE2.cell rfl (by decide) (Nat.le_of_ble_eq_true rfl) rfl (fun cq_8 hq_7 => ?_)
        obtain ⟨hE_9, hf_10⟩ := hq_7
        have hx_11 := RsX_add (clo 0 1) hx
        refine A_aload_n (q := 114) X dX2_writeAbstract_113 rfl rfl ?_
        refine A_getf (q := 117) X fX2_18 dX2_writeAbstract_114 (by omega) ((hf_10 _ (by omega) (by omega) (by omega) (by omega)).trans h23) rfl rfl ?_
        refine A_aload_n (q := 118) X dX2_writeAbstract_117 rfl rfl ?_
        refine A_getf (q := 121) X fX2_12 dX2_writeAbstract_118 (by omega) ((hf_10 _ (by omega) (by omega) (by omega) (by omega)).trans h23) rfl rfl ?_
        refine A_iload_n (q := 122) X dX2_writeAbstract_121 rfl rfl ?_
        refine A_iload (q := 124) X dX2_writeAbstract_122 rfl rfl ?_
        refine A_V3v (q := 127) X (c_X0_addRange (i := ((bh X1.1 (bh X1.1 (p + 2) 1) i))) (j := ((bh X1.1 (bh X1.1 (p + 2) 1) (i + 1)))) hG hE_9 (hE.keep ((hf_10 P (by omega) (by omega) (by omega) (by omega)).trans rfl) ((hf_10 (P + 1) (by omega) (by omega) (by omega) (by omega)).trans rfl) ((hf_10 (P + 2) (by omega) (by omega) (by omega) (by omega)).trans rfl) ((hf_10 (P + 3) (by omega) (by omega) (by omega) (by omega)).trans rfl)) (by omega) (by omega) (by omega) (by omega) (by omega) (by omega) (by omega) (by omega) (by omega) (by omega) (by omega) (by omega) (by omega) (by omega) (by omega) (by omega) (by omega) (by omega)) mX0_addRange kX2_74 dX2_writeAbstract_124 hE2.lt hE_9.cell rfl (by decide) (Nat.le_of_ble_eq_true rfl) rfl (fun cq_13 hq_12 => ?_)
        obtain ⟨hE_14, hf_15⟩ := hq_12
        have hx_16 := RsX_range (l := X1.1) (i := ((bh X1.1 (bh X1.1 (p + 2) 1) i))) (j := ((bh X1.1 (bh X1.1 (p + 2) 1) (i + 1)))) hx_11 (by omega) (by omega)
        refine A_iload (q := 129) X dX2_writeAbstract_127 rfl rfl ?_
        refine A_istore_n (q := 130) X dX2_writeAbstract_129 (by decide) (okP_s rfl rfl) rfl ?_
        refine A_iinc (q := 133) X dX2_writeAbstract_130 rfl (by decide) (okP_s rfl rfl) rfl ?_
        refine A_goto (q := 77) X dX2_writeAbstract_133 rfl ?_
        exact AW.loc (sS rfl (sS rfl (sS rfl (sS rfl (sZ rfl (by omega) (sN sE)))))) (ih (i + 1) _ _ (by omega) (by omega) hE_14 (RsX_eq hx_16 (by show _ = (x ++ (1001 :: clo ((kn (X1.1.getD p 0)) + 1) ((kh (X1.1.getD p 0)) + 1) :: (sl X1.1 (p + 2) (bh X1.1 (p + 2) 1) ++ [0]))) ++ (abE X1.1 (bh X1.1 (p + 2) 1) i ++ (clo 0 1 :: sl X1.1 (bh X1.1 (bh X1.1 (p + 2) 1) i) (bh X1.1 (bh X1.1 (p + 2) 1) (i + 1)))); simp only [List.append_assoc, List.cons_append, List.nil_append])) (fun k n0 n1 n2 n3 => ((hf_15 k n0 n1 n2 n3).trans ((hf_10 k n0 n1 n2 n3).trans (hf0 k n0 n1 n2 n3)))))
set_option maxRecDepth 100000 in
set_option maxHeartbeats 4000000 in
theorem c_X2_writeAbstract {l : Launch} {G : Gm} {c : HP} {P Q p : Nat} {pk : Int} {X1 T : List Int × Int} {x : List Int} (hG : injG G) (hN : G.2.1 = 72) (hPQ : (P = 24 ∧ Q = 28) ∨ (P = 28 ∧ Q = 24)) (h23 : c23 G c P Q pk) (hE : Ex G c P (P + 1) (P + 2) (P + 3) X1) (hXG : XG X1.1) (hE2 : Ex G c Q (Q + 1) (Q + 2) (Q + 3) T) (hx : RsX T x) (hp : p + 1 < X1.1.length) (h0 : 1000000 ≤ X1.1.getD p 0) : AMet l G yX2_writeAbstract cX2_writeAbstract 6 (none) (rmR 2 64) [.ref (G.1 23), .int (zI ((p : Nat) : Int))] c (Qv (fun c' => ∃ T', Ex G c' Q (Q + 1) (Q + 2) (Q + 3) T' ∧ RsX T' (x ++ pcL X1.1 p) ∧ (∀ k, k ≠ Q → k ≠ Q + 1 → k ≠ Q + 2 → k ≠ Q + 3 → c' k = c k))) := by
  refine AMet.of (vl := [some (.ref (G.1 23)), some (.int (zI ((p : Nat) : Int)))]) (by decide) hG (Nat.le_of_ble_eq_true rfl) rfl ?_
  intro K X
  have X : Fx l G K cX2_writeAbstract 6 RX2 (none) (rmR 2 64) := X
  have hXB := hXG.xb
  have hl1 := hE.len
  have nm := hXB.num (k := p) (by omega) h0
  have blf := bh_le (l := X1.1) (s := p + 2) 1 (by omega)
  have bgf := bh_ge X1.1 (p + 2) 1
  refine A_aload_n (q := 1) X dX2_writeAbstract_0 rfl rfl ?_
  refine A_getf (q := 4) X fX2_12 dX2_writeAbstract_1 (by omega) h23 rfl rfl ?_
  refine A_iload_n (q := 5) X dX2_writeAbstract_4 rfl rfl ?_
  refine A_V1i (q := 8) X (c_X0_entriesAt hG hE (by omega)) mX0_entriesAt kX2_99 dX2_writeAbstract_5 hE.lt hE.cell rfl (by decide) (Nat.le_of_ble_eq_true rfl) rfl (fun vq_3 cq_2 hq_1 => ?_)
  obtain ⟨rfl, hq_1⟩ := hq_1
  obtain rfl := hq_1.symm
  rw [eeA_in rfl (by omega), eeE_c h0]
  refine A_istore_n (q := 9) X dX2_writeAbstract_8 (by decide) (okP_s rfl rfl) rfl ?_
  refine A_aload_n (q := 10) X dX2_writeAbstract_9 rfl rfl ?_
  refine A_getf (q := 13) X fX2_12 dX2_writeAbstract_10 (by omega) h23 rfl rfl ?_
  refine A_iload_n (q := 14) X dX2_writeAbstract_13 rfl rfl ?_
  refine A_iconst (q := 15) X dX2_writeAbstract_14 rfl ?_
  refine A_iadd (q := 16) X dX2_writeAbstract_15 rfl ?_
  refine A_iconst (q := 17) X dX2_writeAbstract_16 rfl ?_
  rw [show zI (((p : Nat) : Int) + 2) = zI ((((p) + 2) : Nat) : Int) from congrArg zI (by omega)]
  refine A_V2i (q := 20) X (c_X0_behind (s := (((p) + 2))) (n0 := 1) hG hE hXB (by omega) (by omega)) mX0_behind kX2_93 dX2_writeAbstract_17 hE.lt hE.cell rfl (by decide) (Nat.le_of_ble_eq_true rfl) rfl (fun vq_6 cq_5 hq_4 => ?_)
  obtain ⟨rfl, hq_4⟩ := hq_4
  obtain rfl := hq_4.symm
  refine A_istore_n (q := 21) X dX2_writeAbstract_20 (by decide) (okP_s rfl rfl) rfl ?_
  refine A_aload_n (q := 22) X dX2_writeAbstract_21 rfl rfl ?_
  refine A_getf (q := 25) X fX2_18 dX2_writeAbstract_22 (by omega) h23 rfl rfl ?_
  refine A_sipush (q := 28) X dX2_writeAbstract_25 (by decide) rfl ?_
  refine A_V1v (q := 31) X (c_X0_add (t := 1001) hG hE2 (by omega)) mX0_add kX2_69 dX2_writeAbstract_28 hE2.lt hE2.cell rfl (by decide) (Nat.le_of_ble_eq_true rfl) rfl (fun cq_8 hq_7 => ?_)
  obtain ⟨hE_9, hf_10⟩ := hq_7
  have hx_11 := RsX_add 1001 hx
  refine A_aload_n (q := 32) X dX2_writeAbstract_31 rfl rfl ?_
  refine A_getf (q := 35) X fX2_18 dX2_writeAbstract_32 (by omega) ((hf_10 _ (by omega) (by omega) (by omega) (by omega)).trans h23) rfl rfl ?_
  refine A_iload_n (q := 36) X dX2_writeAbstract_35 rfl rfl ?_
  refine A_iconst (q := 37) X dX2_writeAbstract_36 rfl ?_
  refine A_iadd (q := 38) X dX2_writeAbstract_37 rfl ?_
  refine A_aload_n (q := 39) X dX2_writeAbstract_38 rfl rfl ?_
  refine A_getf (q := 42) X fX2_12 dX2_writeAbstract_39 (by omega) ((hf_10 _ (by omega) (by omega) (by omega) (by omega)).trans h23) rfl rfl ?_
  refine A_iload_n (q := 43) X dX2_writeAbstract_42 rfl rfl ?_
  refine A_V1i (q := 46) X (c_X0_shiftAt hG (hE.keep ((hf_10 P (by omega) (by omega) (by omega) (by omega)).trans rfl) ((hf_10 (P + 1) (by omega) (by omega) (by omega) (by omega)).trans rfl) ((hf_10 (P + 2) (by omega) (by omega) (by omega) (by omega)).trans rfl) ((hf_10 (P + 3) (by omega) (by omega) (by omega) (by omega)).trans rfl)) (by omega)) mX0_shiftAt kX2_102 dX2_writeAbstract_43 hE.lt (hE.keep ((hf_10 P (by omega) (by omega) (by omega) (by omega)).trans rfl) ((hf_10 (P + 1) (by omega) (by omega) (by omega) (by omega)).trans rfl) ((hf_10 (P + 2) (by omega) (by omega) (by omega) (by omega)).trans rfl) ((hf_10 (P + 3) (by omega) (by omega) (by omega) (by omega)).trans rfl)).cell rfl (by decide) (Nat.le_of_ble_eq_true rfl) rfl (fun vq_14 cq_13 hq_12 => ?_)
  obtain ⟨rfl, hq_12⟩ := hq_12
  obtain rfl := hq_12.symm
  rw [shA_in rfl (by omega), shE_c h0]
  refine A_iconst (q := 47) X dX2_writeAbstract_46 rfl ?_
  refine A_iadd (q := 48) X dX2_writeAbstract_47 rfl ?_
  rw [show zI ((((kn (X1.1.getD p 0)) : Nat) : Int) + 1) = zI (((((kn (X1.1.getD p 0))) + 1) : Nat) : Int) from congrArg zI (by omega)]
  rw [show zI ((((kh (X1.1.getD p 0)) : Nat) : Int) + 1) = zI (((((kh (X1.1.getD p 0))) + 1) : Nat) : Int) from congrArg zI (by omega)]
  refine A_V2v (q := 51) X (c_X0_addClosure (n := ((((kn (X1.1.getD p 0))) + 1))) (k := ((((kh (X1.1.getD p 0))) + 1))) hG hE_9 (by omega)) mX0_addClosure kX2_96 dX2_writeAbstract_48 hE2.lt hE_9.cell rfl (by decide) (Nat.le_of_ble_eq_true rfl) rfl (fun cq_16 hq_15 => ?_)
  obtain ⟨hE_17, hf_18⟩ := hq_15
  have hx_19 := RsX_add (clo ((((kn (X1.1.getD p 0))) + 1)) ((((kh (X1.1.getD p 0))) + 1))) hx_11
  refine A_aload_n (q := 52) X dX2_writeAbstract_51 rfl rfl ?_
  refine A_getf (q := 55) X fX2_18 dX2_writeAbstract_52 (by omega) ((hf_18 _ (by omega) (by omega) (by omega) (by omega)).trans ((hf_10 _ (by omega) (by omega) (by omega) (by omega)).trans h23)) rfl rfl ?_
  refine A_aload_n (q := 56) X dX2_writeAbstract_55 rfl rfl ?_
  refine A_getf (q := 59) X fX2_12 dX2_writeAbstract_56 (by omega) ((hf_18 _ (by omega) (by omega) (by omega) (by omega)).trans ((hf_10 _ (by omega) (by omega) (by omega) (by omega)).trans h23)) rfl rfl ?_
  refine A_iload_n (q := 60) X dX2_writeAbstract_59 rfl rfl ?_
  refine A_iconst (q := 61) X dX2_writeAbstract_60 rfl ?_
  refine A_iadd (q := 62) X dX2_writeAbstract_61 rfl ?_
  refine A_iload_n (q := 63) X dX2_writeAbstract_62 rfl rfl ?_
  rw [show zI (((p : Nat) : Int) + 2) = zI ((((p) + 2) : Nat) : Int) from congrArg zI (by omega)]
  refine A_V3v (q := 66) X (c_X0_addRange (i := (((p) + 2))) (j := ((bh X1.1 (((p) + 2)) 1))) hG hE_17 (hE.keep ((hf_18 P (by omega) (by omega) (by omega) (by omega)).trans ((hf_10 P (by omega) (by omega) (by omega) (by omega)).trans rfl)) ((hf_18 (P + 1) (by omega) (by omega) (by omega) (by omega)).trans ((hf_10 (P + 1) (by omega) (by omega) (by omega) (by omega)).trans rfl)) ((hf_18 (P + 2) (by omega) (by omega) (by omega) (by omega)).trans ((hf_10 (P + 2) (by omega) (by omega) (by omega) (by omega)).trans rfl)) ((hf_18 (P + 3) (by omega) (by omega) (by omega) (by omega)).trans ((hf_10 (P + 3) (by omega) (by omega) (by omega) (by omega)).trans rfl))) (by omega) (by omega) (by omega) (by omega) (by omega) (by omega) (by omega) (by omega) (by omega) (by omega) (by omega) (by omega) (by omega) (by omega) (by omega) (by omega) (by omega) (by omega)) mX0_addRange kX2_74 dX2_writeAbstract_63 hE2.lt hE_17.cell rfl (by decide) (Nat.le_of_ble_eq_true rfl) rfl (fun cq_21 hq_20 => ?_)
  obtain ⟨hE_22, hf_23⟩ := hq_20
  have hx_24 := RsX_range (l := X1.1) (i := (((p) + 2))) (j := ((bh X1.1 (((p) + 2)) 1))) hx_19 (by omega) (by omega)
  refine A_aload_n (q := 67) X dX2_writeAbstract_66 rfl rfl ?_
  refine A_getf (q := 70) X fX2_18 dX2_writeAbstract_67 (by omega) ((hf_23 _ (by omega) (by omega) (by omega) (by omega)).trans ((hf_18 _ (by omega) (by omega) (by omega) (by omega)).trans ((hf_10 _ (by omega) (by omega) (by omega) (by omega)).trans h23))) rfl rfl ?_
  refine A_iconst (q := 71) X dX2_writeAbstract_70 rfl ?_
  refine A_V1v (q := 74) X (c_X0_add (t := 0) hG hE_22 (by omega)) mX0_add kX2_69 dX2_writeAbstract_71 hE2.lt hE_22.cell rfl (by decide) (Nat.le_of_ble_eq_true rfl) rfl (fun cq_26 hq_25 => ?_)
  obtain ⟨hE_27, hf_28⟩ := hq_25
  have hx_29 := RsX_add 0 hx_24
  refine A_iconst (q := 75) X dX2_writeAbstract_74 rfl ?_
  refine A_istore (q := 77) X dX2_writeAbstract_75 (by decide) (okP_s rfl rfl) rfl ?_
  rw [show (((bh X1.1 (((p) + 2)) 1) : Nat) : Int) = ((bh X1.1 (bh X1.1 (p + 2) 1) 0 : Nat) : Int) by rw [bh_0]]
  exact AW.loc (sS rfl (sS rfl (sS rfl (sS rfl (sZ rfl (by omega) (sN sE)))))) (lp_X2_writeAbstract X hG hN hPQ h23 hE hXG hp h0 _ 0 _ _ (Nat.lt_succ_self _) (Nat.zero_le _) hE_27 (RsX_eq hx_29 (by show _ = (x ++ (1001 :: clo ((kn (X1.1.getD p 0)) + 1) ((kh (X1.1.getD p 0)) + 1) :: (sl X1.1 (p + 2) (bh X1.1 (p + 2) 1) ++ [0]))) ++ []; simp only [List.append_assoc, List.cons_append, List.nil_append, List.append_nil])) (fun k n0 n1 n2 n3 => ((hf_28 k n0 n1 n2 n3).trans ((hf_23 k n0 n1 n2 n3).trans ((hf_18 k n0 n1 n2 n3).trans ((hf_10 k n0 n1 n2 n3).trans rfl))))))
set_option maxRecDepth 100000 in
set_option maxHeartbeats 4000000 in
theorem lp_X2_writeMerge {l : Launch} {G : Gm} {K : Cx} {c0 : HP} {P Q p : Nat} {pk : Int} {X1 : List Int × Int} {x : List Int} (X : Fx l G K cX2_writeMerge 12 RX2 (none) (rmR 2 64)) (hG : injG G) (hN : G.2.1 = 72) (hPQ : (P = 24 ∧ Q = 28) ∨ (P = 28 ∧ Q = 24)) (h230 : c23 G c0 P Q pk) (hE0 : Ex G c0 P (P + 1) (P + 2) (P + 3) X1) (hXG : XG X1.1) (hp : p + 1 < X1.1.length) (h0 : 1000000 ≤ X1.1.getD p 0) (h1 : 1000000 ≤ X1.1.getD (p + 1) 0) : ∀ (n : Nat) (i : Nat) (T : List Int × Int) (c : HP), (kn (X1.1.getD (p + 1) 0)) - i < n → i ≤ (kn (X1.1.getD (p + 1) 0)) → Ex G c Q (Q + 1) (Q + 2) (Q + 3) T → RsX T ((x ++ (clo ((kn (X1.1.getD (p + 1) 0)) + (kn (X1.1.getD p 0)) - (min (kh (X1.1.getD (p + 1) 0)) (kn (X1.1.getD p 0)))) ((kh (X1.1.getD (p + 1) 0)) - (min (kh (X1.1.getD (p + 1) 0)) (kn (X1.1.getD p 0))) + (kh (X1.1.getD p 0))) :: sl X1.1 (p + 2) (bh X1.1 (p + 2) 1))) ++ mgE X1.1 (bh X1.1 (p + 2) 1) (X1.1.getD p 0) (bh X1.1 (p + 2) (1 + (kn (X1.1.getD (p + 1) 0)))) (bh X1.1 (p + 2) (1 + (kn (X1.1.getD (p + 1) 0)) + (kn (X1.1.getD p 0)))) i) → (∀ k, k ≠ Q → k ≠ Q + 1 → k ≠ Q + 2 → k ≠ Q + 3 → c k = c0 k) → AW G K (Qv (fun c' => ∃ T', Ex G c' Q (Q + 1) (Q + 2) (Q + 3) T' ∧ RsX T' (x ++ pcM X1.1 p) ∧ (∀ k, k ≠ Q → k ≠ Q + 1 → k ≠ Q + 2 → k ≠ Q + 3 → c' k = c0 k))) 128 (mkL [some (.ref (G.1 23)), some (.int (zI ((p : Nat) : Int))), some (.int (zI (((kn (X1.1.getD p 0)) : Nat) : Int))), some (.int (zI (((kh (X1.1.getD p 0)) : Nat) : Int))), some (.int (zI (((kn (X1.1.getD (p + 1) 0)) : Nat) : Int))), some (.int (zI (((kh (X1.1.getD (p + 1) 0)) : Nat) : Int))), some (.int (zI (((bh X1.1 (bh X1.1 (p + 2) 1) i) : Nat) : Int))), some (.int (zI (((bh X1.1 (p + 2) (1 + (kn (X1.1.getD (p + 1) 0)))) : Nat) : Int))), some (.int (zI (((bh X1.1 (p + 2) (1 + (kn (X1.1.getD (p + 1) 0)) + (kn (X1.1.getD p 0)))) : Nat) : Int))), some (.int (zI (((min (kh (X1.1.getD (p + 1) 0)) (kn (X1.1.getD p 0))) : Nat) : Int))), some (.int (zI ((i : Nat) : Int))), none]) [] c := by
  intro n
  induction n with
  | zero => intro i T c hmz; exact absurd hmz (Nat.not_lt_zero _)
  | succ n ih =>
    intro i T c hmz hi hE2 hx hf0
    have h23 := (hf0 23 (by omega) (by omega) (by omega) (by omega)).trans h230
    have hE := hE0.keep (hf0 P (by omega) (by omega) (by omega) (by omega)) (hf0 (P + 1) (by omega) (by omega) (by omega) (by omega)) (hf0 (P + 2) (by omega) (by omega) (by omega) (by omega)) (hf0 (P + 3) (by omega) (by omega) (by omega) (by omega))
    have hXB := hXG.xb
    have hl1 := hE.len
    have nm := hXB.num (k := p) (by omega) h0
    have nm1 := hXB.num (k := p + 1) (by omega) h1
    have blf := bh_le (l := X1.1) (s := p + 2) 1 (by omega)
    have bgf := bh_ge X1.1 (p + 2) 1
    have blo := bh_le (l := X1.1) (s := p + 2) (1 + (kn (X1.1.getD (p + 1) 0))) (by omega)
    have ble := bh_le (l := X1.1) (s := p + 2) (1 + (kn (X1.1.getD (p + 1) 0)) + (kn (X1.1.getD p 0))) (by omega)
    have bmo := bh_mono X1.1 (p + 2) (1 + (kn (X1.1.getD (p + 1) 0))) (kn (X1.1.getD p 0))
    have bmb := bh_mono X1.1 (p + 2) 1 (kn (X1.1.getD (p + 1) 0))
    have bld := bh_le (l := X1.1) (s := p + 2) (1 + (kn (X1.1.getD (p + 1) 0)) + (min (kh (X1.1.getD (p + 1) 0)) (kn (X1.1.getD p 0)))) (by omega)
    have bmd := bh_mono X1.1 (p + 2) (1 + (kn (X1.1.getD (p + 1) 0)) + (min (kh (X1.1.getD (p + 1) 0)) (kn (X1.1.getD p 0)))) ((kn (X1.1.getD p 0)) - (min (kh (X1.1.getD (p + 1) 0)) (kn (X1.1.getD p 0))))
    rw [show 1 + (kn (X1.1.getD (p + 1) 0)) + (min (kh (X1.1.getD (p + 1) 0)) (kn (X1.1.getD p 0))) + ((kn (X1.1.getD p 0)) - (min (kh (X1.1.getD (p + 1) 0)) (kn (X1.1.getD p 0)))) = 1 + (kn (X1.1.getD (p + 1) 0)) + (kn (X1.1.getD p 0)) by omega] at bmd
    refine A_iload (q := 130) X dX2_writeMerge_128 rfl rfl ?_
    refine A_iload (q := 132) X dX2_writeMerge_130 rfl rfl ?_
    refine A_icmp_ge (q := 135) (t := 206) X dX2_writeMerge_132 (by omega) (by omega) rfl rfl (fun hb132 => ?_) (fun hb132 => ?_)
    · refine A_aload_n (q := 207) X dX2_writeMerge_206 rfl rfl ?_
      refine A_getf (q := 210) X fX2_18 dX2_writeMerge_207 (by omega) h23 rfl rfl ?_
      refine A_aload_n (q := 211) X dX2_writeMerge_210 rfl rfl ?_
      refine A_getf (q := 214) X fX2_12 dX2_writeMerge_211 (by omega) h23 rfl rfl ?_
      refine A_aload_n (q := 215) X dX2_writeMerge_214 rfl rfl ?_
      refine A_getf (q := 218) X fX2_12 dX2_writeMerge_215 (by omega) h23 rfl rfl ?_
      refine A_iload (q := 220) X dX2_writeMerge_218 rfl rfl ?_
      refine A_iload (q := 222) X dX2_writeMerge_220 rfl rfl ?_
      refine A_V2i (q := 225) X (c_X0_behind (s := ((bh X1.1 (p + 2) (1 + (kn (X1.1.getD (p + 1) 0)))))) (n0 := ((min (kh (X1.1.getD (p + 1) 0)) (kn (X1.1.getD p 0))))) hG hE hXB (by omega) (by omega)) mX0_behind kX2_93 dX2_writeMerge_222 hE.lt hE.cell rfl (by decide) (Nat.le_of_ble_eq_true rfl) rfl (fun vq_3 cq_2 hq_1 => ?_)
      obtain ⟨rfl, hq_1⟩ := hq_1
      obtain rfl := hq_1.symm
      rw [show bh X1.1 (bh X1.1 (p + 2) (1 + (kn (X1.1.getD (p + 1) 0)))) (min (kh (X1.1.getD (p + 1) 0)) (kn (X1.1.getD p 0))) = bh X1.1 (p + 2) (1 + (kn (X1.1.getD (p + 1) 0)) + (min (kh (X1.1.getD (p + 1) 0)) (kn (X1.1.getD p 0)))) from (bh_add X1.1 (p + 2) (1 + (kn (X1.1.getD (p + 1) 0))) _).symm]
      refine A_iload (q := 227) X dX2_writeMerge_225 rfl rfl ?_
      refine A_V3v (q := 230) X (c_X0_addRange (i := ((bh X1.1 (p + 2) (1 + (kn (X1.1.getD (p + 1) 0)) + (min (kh (X1.1.getD (p + 1) 0)) (kn (X1.1.getD p 0))))))) (j := ((bh X1.1 (p + 2) (1 + (kn (X1.1.getD (p + 1) 0)) + (kn (X1.1.getD p 0)))))) hG hE2 hE (by omega) (by omega) (by omega) (by omega) (by omega) (by omega) (by omega) (by omega) (by omega) (by omega) (by omega) (by omega) (by omega) (by omega) (by omega) (by omega) (by omega) (by omega)) mX0_addRange kX2_74 dX2_writeMerge_227 hE2.lt hE2.cell rfl (by decide) (Nat.le_of_ble_eq_true rfl) rfl (fun cq_5 hq_4 => ?_)
      obtain ⟨hE_6, hf_7⟩ := hq_4
      have hx_8 := RsX_range (l := X1.1) (i := ((bh X1.1 (p + 2) (1 + (kn (X1.1.getD (p + 1) 0)) + (min (kh (X1.1.getD (p + 1) 0)) (kn (X1.1.getD p 0))))))) (j := ((bh X1.1 (p + 2) (1 + (kn (X1.1.getD (p + 1) 0)) + (kn (X1.1.getD p 0)))))) hx (by omega) (by omega)
      have ei : i = (kn (X1.1.getD (p + 1) 0)) := by omega
      have hx9 := hx_8
      rw [ei] at hx9
      exact A_return X dX2_writeMerge_230 ⟨_, hE_6, RsX_eq hx9 (by unfold pcM; simp only [List.append_assoc, List.cons_append, List.nil_append]), (fun k n0 n1 n2 n3 => ((hf_7 k n0 n1 n2 n3).trans (hf0 k n0 n1 n2 n3)))⟩
    · refine A_aload_n (q := 136) X dX2_writeMerge_135 rfl rfl ?_
      refine A_getf (q := 139) X fX2_18 dX2_writeMerge_136 (by omega) h23 rfl rfl ?_
      refine A_V0i (q := 142) X (c_X0_isTooLarge hG hE2) mX0_isTooLarge kX2_45 dX2_writeMerge_139 hE2.lt hE2.cell rfl (by decide) (Nat.le_of_ble_eq_true rfl) rfl (fun vq_11 cq_10 hq_9 => ?_)
      obtain ⟨rfl, hq_9⟩ := hq_9
      obtain rfl := hq_9.symm
      have hb01 := hE2.b01
      refine A_if_ne (q := 145) (t := 206) X dX2_writeMerge_142 (by omega) rfl rfl (fun hb142 => ?_) (fun hb142 => ?_)
      · refine A_aload_n (q := 207) X dX2_writeMerge_206 rfl rfl ?_
        refine A_getf (q := 210) X fX2_18 dX2_writeMerge_207 (by omega) h23 rfl rfl ?_
        refine A_aload_n (q := 211) X dX2_writeMerge_210 rfl rfl ?_
        refine A_getf (q := 214) X fX2_12 dX2_writeMerge_211 (by omega) h23 rfl rfl ?_
        refine A_aload_n (q := 215) X dX2_writeMerge_214 rfl rfl ?_
        refine A_getf (q := 218) X fX2_12 dX2_writeMerge_215 (by omega) h23 rfl rfl ?_
        refine A_iload (q := 220) X dX2_writeMerge_218 rfl rfl ?_
        refine A_iload (q := 222) X dX2_writeMerge_220 rfl rfl ?_
        refine A_V2i (q := 225) X (c_X0_behind (s := ((bh X1.1 (p + 2) (1 + (kn (X1.1.getD (p + 1) 0)))))) (n0 := ((min (kh (X1.1.getD (p + 1) 0)) (kn (X1.1.getD p 0))))) hG hE hXB (by omega) (by omega)) mX0_behind kX2_93 dX2_writeMerge_222 hE.lt hE.cell rfl (by decide) (Nat.le_of_ble_eq_true rfl) rfl (fun vq_14 cq_13 hq_12 => ?_)
        obtain ⟨rfl, hq_12⟩ := hq_12
        obtain rfl := hq_12.symm
        rw [show bh X1.1 (bh X1.1 (p + 2) (1 + (kn (X1.1.getD (p + 1) 0)))) (min (kh (X1.1.getD (p + 1) 0)) (kn (X1.1.getD p 0))) = bh X1.1 (p + 2) (1 + (kn (X1.1.getD (p + 1) 0)) + (min (kh (X1.1.getD (p + 1) 0)) (kn (X1.1.getD p 0)))) from (bh_add X1.1 (p + 2) (1 + (kn (X1.1.getD (p + 1) 0))) _).symm]
        refine A_iload (q := 227) X dX2_writeMerge_225 rfl rfl ?_
        refine A_V3v (q := 230) X (c_X0_addRange (i := ((bh X1.1 (p + 2) (1 + (kn (X1.1.getD (p + 1) 0)) + (min (kh (X1.1.getD (p + 1) 0)) (kn (X1.1.getD p 0))))))) (j := ((bh X1.1 (p + 2) (1 + (kn (X1.1.getD (p + 1) 0)) + (kn (X1.1.getD p 0)))))) hG hE2 hE (by omega) (by omega) (by omega) (by omega) (by omega) (by omega) (by omega) (by omega) (by omega) (by omega) (by omega) (by omega) (by omega) (by omega) (by omega) (by omega) (by omega) (by omega)) mX0_addRange kX2_74 dX2_writeMerge_227 hE2.lt hE2.cell rfl (by decide) (Nat.le_of_ble_eq_true rfl) rfl (fun cq_16 hq_15 => ?_)
        obtain ⟨hE_17, hf_18⟩ := hq_15
        have hx_19 := RsX_range (l := X1.1) (i := ((bh X1.1 (p + 2) (1 + (kn (X1.1.getD (p + 1) 0)) + (min (kh (X1.1.getD (p + 1) 0)) (kn (X1.1.getD p 0))))))) (j := ((bh X1.1 (p + 2) (1 + (kn (X1.1.getD (p + 1) 0)) + (kn (X1.1.getD p 0)))))) hx (by omega) (by omega)
        refine A_return X dX2_writeMerge_230 ⟨_, hE_17, RsX_big hx_19 (by unfold xRange; split; (exact hb142); (show (1 : Int) ≠ 0; decide)) ?_, (fun k n0 n1 n2 n3 => ((hf_18 k n0 n1 n2 n3).trans (hf0 k n0 n1 n2 n3)))⟩
        have hm := mgE_mono X1.1 (bh X1.1 (p + 2) 1) (X1.1.getD p 0) (bh X1.1 (p + 2) (1 + (kn (X1.1.getD (p + 1) 0)))) (bh X1.1 (p + 2) (1 + (kn (X1.1.getD (p + 1) 0)) + (kn (X1.1.getD p 0)))) i ((kn (X1.1.getD (p + 1) 0)) - i)
        rw [show i + ((kn (X1.1.getD (p + 1) 0)) - i) = (kn (X1.1.getD (p + 1) 0)) by omega] at hm
        unfold pcM
        simp only [List.length_append, List.length_cons, List.length_nil] at *
        omega
      · have bl1 := bh_le (l := X1.1) (s := (bh X1.1 (p + 2) 1)) i (by omega)
        have bl2 := bh_le (l := X1.1) (s := (bh X1.1 (p + 2) 1)) (i + 1) (by omega)
        have bm := bh_mono X1.1 (bh X1.1 (p + 2) 1) i 1
        refine A_aload_n (q := 146) X dX2_writeMerge_145 rfl rfl ?_
        refine A_getf (q := 149) X fX2_12 dX2_writeMerge_146 (by omega) h23 rfl rfl ?_
        refine A_iload (q := 151) X dX2_writeMerge_149 rfl rfl ?_
        refine A_iconst (q := 152) X dX2_writeMerge_151 rfl ?_
        refine A_V2i (q := 155) X (c_X0_behind (s := ((bh X1.1 (bh X1.1 (p + 2) 1) i))) (n0 := 1) hG hE hXB (by omega) (by omega)) mX0_behind kX2_93 dX2_writeMerge_152 hE.lt hE.cell rfl (by decide) (Nat.le_of_ble_eq_true rfl) rfl (fun vq_22 cq_21 hq_20 => ?_)
        obtain ⟨rfl, hq_20⟩ := hq_20
        obtain rfl := hq_20.symm
        rw [show bh X1.1 (bh X1.1 (bh X1.1 (p + 2) 1) i) 1 = bh X1.1 (bh X1.1 (p + 2) 1) (i + 1) from (bh_add X1.1 (bh X1.1 (p + 2) 1) i 1).symm]
        refine A_istore (q := 157) X dX2_writeMerge_155 (by decide) (okP_s rfl rfl) rfl ?_
        refine A_aload_n (q := 158) X dX2_writeMerge_157 rfl rfl ?_
        refine A_getf (q := 161) X fX2_18 dX2_writeMerge_158 (by omega) h23 rfl rfl ?_
        refine A_iload_n (q := 162) X dX2_writeMerge_161 rfl rfl ?_
        refine A_iload_n (q := 163) X dX2_writeMerge_162 rfl rfl ?_
        refine A_V2v (q := 166) X (c_X0_addClosure (n := ((kn (X1.1.getD p 0)))) (k := ((kh (X1.1.getD p 0)))) hG hE2 (by omega)) mX0_addClosure kX2_96 dX2_writeMerge_163 hE2.lt hE2.cell rfl (by decide) (Nat.le_of_ble_eq_true rfl) rfl (fun cq_24 hq_23 => ?_)
        obtain ⟨hE_25, hf_26⟩ := hq_23
        have hx_27 := RsX_add (clo ((kn (X1.1.getD p 0))) ((kh (X1.1.getD p 0)))) hx
        refine A_aload_n (q := 167) X dX2_writeMerge_166 rfl rfl ?_
        refine A_getf (q := 170) X fX2_18 dX2_writeMerge_167 (by omega) ((hf_26 _ (by omega) (by omega) (by omega) (by omega)).trans h23) rfl rfl ?_
        refine A_aload_n (q := 171) X dX2_writeMerge_170 rfl rfl ?_
        refine A_getf (q := 174) X fX2_12 dX2_writeMerge_171 (by omega) ((hf_26 _ (by omega) (by omega) (by omega) (by omega)).trans h23) rfl rfl ?_
        refine A_iload (q := 176) X dX2_writeMerge_174 rfl rfl ?_
        refine A_iload (q := 178) X dX2_writeMerge_176 rfl rfl ?_
        refine A_V3v (q := 181) X (c_X0_addRange (i := ((bh X1.1 (bh X1.1 (p + 2) 1) i))) (j := ((bh X1.1 (bh X1.1 (p + 2) 1) (i + 1)))) hG hE_25 (hE.keep ((hf_26 P (by omega) (by omega) (by omega) (by omega)).trans rfl) ((hf_26 (P + 1) (by omega) (by omega) (by omega) (by omega)).trans rfl) ((hf_26 (P + 2) (by omega) (by omega) (by omega) (by omega)).trans rfl) ((hf_26 (P + 3) (by omega) (by omega) (by omega) (by omega)).trans rfl)) (by omega) (by omega) (by omega) (by omega) (by omega) (by omega) (by omega) (by omega) (by omega) (by omega) (by omega) (by omega) (by omega) (by omega) (by omega) (by omega) (by omega) (by omega)) mX0_addRange kX2_74 dX2_writeMerge_178 hE2.lt hE_25.cell rfl (by decide) (Nat.le_of_ble_eq_true rfl) rfl (fun cq_29 hq_28 => ?_)
        obtain ⟨hE_30, hf_31⟩ := hq_28
        have hx_32 := RsX_range (l := X1.1) (i := ((bh X1.1 (bh X1.1 (p + 2) 1) i))) (j := ((bh X1.1 (bh X1.1 (p + 2) 1) (i + 1)))) hx_27 (by omega) (by omega)
        refine A_aload_n (q := 182) X dX2_writeMerge_181 rfl rfl ?_
        refine A_getf (q := 185) X fX2_18 dX2_writeMerge_182 (by omega) ((hf_31 _ (by omega) (by omega) (by omega) (by omega)).trans ((hf_26 _ (by omega) (by omega) (by omega) (by omega)).trans h23)) rfl rfl ?_
        refine A_aload_n (q := 186) X dX2_writeMerge_185 rfl rfl ?_
        refine A_getf (q := 189) X fX2_12 dX2_writeMerge_186 (by omega) ((hf_31 _ (by omega) (by omega) (by omega) (by omega)).trans ((hf_26 _ (by omega) (by omega) (by omega) (by omega)).trans h23)) rfl rfl ?_
        refine A_iload (q := 191) X dX2_writeMerge_189 rfl rfl ?_
        refine A_iload (q := 193) X dX2_writeMerge_191 rfl rfl ?_
        refine A_V3v (q := 196) X (c_X0_addRange (i := ((bh X1.1 (p + 2) (1 + (kn (X1.1.getD (p + 1) 0)))))) (j := ((bh X1.1 (p + 2) (1 + (kn (X1.1.getD (p + 1) 0)) + (kn (X1.1.getD p 0)))))) hG hE_30 (hE.keep ((hf_31 P (by omega) (by omega) (by omega) (by omega)).trans ((hf_26 P (by omega) (by omega) (by omega) (by omega)).trans rfl)) ((hf_31 (P + 1) (by omega) (by omega) (by omega) (by omega)).trans ((hf_26 (P + 1) (by omega) (by omega) (by omega) (by omega)).trans rfl)) ((hf_31 (P + 2) (by omega) (by omega) (by omega) (by omega)).trans ((hf_26 (P + 2) (by omega) (by omega) (by omega) (by omega)).trans rfl)) ((hf_31 (P + 3) (by omega) (by omega) (by omega) (by omega)).trans ((hf_26 (P + 3) (by omega) (by omega) (by omega) (by omega)).trans rfl))) (by omega) (by omega) (by omega) (by omega) (by omega) (by omega) (by omega) (by omega) (by omega) (by omega) (by omega) (by omega) (by omega) (by omega) (by omega) (by omega) (by omega) (by omega)) mX0_addRange kX2_74 dX2_writeMerge_193 hE2.lt hE_30.cell rfl (by decide) (Nat.le_of_ble_eq_true rfl) rfl (fun cq_34 hq_33 => ?_)
        obtain ⟨hE_35, hf_36⟩ := hq_33
        have hx_37 := RsX_range (l := X1.1) (i := ((bh X1.1 (p + 2) (1 + (kn (X1.1.getD (p + 1) 0)))))) (j := ((bh X1.1 (p + 2) (1 + (kn (X1.1.getD (p + 1) 0)) + (kn (X1.1.getD p 0)))))) hx_32 (by omega) (by omega)
        refine A_iload (q := 198) X dX2_writeMerge_196 rfl rfl ?_
        refine A_istore (q := 200) X dX2_writeMerge_198 (by decide) (okP_s rfl rfl) rfl ?_
        refine A_iinc (q := 203) X dX2_writeMerge_200 rfl (by decide) (okP_s rfl rfl) rfl ?_
        refine A_goto (q := 128) X dX2_writeMerge_203 rfl ?_
        exact AW.loc (sS rfl (sS rfl (sS rfl (sS rfl (sS rfl (sS rfl (sS rfl (sS rfl (sS rfl (sS rfl (sZ rfl (by omega) (sN sE)))))))))))) (ih (i + 1) _ _ (by omega) (by omega) hE_35 (RsX_eq hx_37 (by rw [clo_of h0]; show _ = (x ++ (clo ((kn (X1.1.getD (p + 1) 0)) + (kn (X1.1.getD p 0)) - (min (kh (X1.1.getD (p + 1) 0)) (kn (X1.1.getD p 0)))) ((kh (X1.1.getD (p + 1) 0)) - (min (kh (X1.1.getD (p + 1) 0)) (kn (X1.1.getD p 0))) + (kh (X1.1.getD p 0))) :: sl X1.1 (p + 2) (bh X1.1 (p + 2) 1))) ++ (mgE X1.1 (bh X1.1 (p + 2) 1) (X1.1.getD p 0) (bh X1.1 (p + 2) (1 + (kn (X1.1.getD (p + 1) 0)))) (bh X1.1 (p + 2) (1 + (kn (X1.1.getD (p + 1) 0)) + (kn (X1.1.getD p 0)))) i ++ (X1.1.getD p 0 :: (sl X1.1 (bh X1.1 (bh X1.1 (p + 2) 1) i) (bh X1.1 (bh X1.1 (p + 2) 1) (i + 1)) ++ sl X1.1 (bh X1.1 (p + 2) (1 + (kn (X1.1.getD (p + 1) 0)))) (bh X1.1 (p + 2) (1 + (kn (X1.1.getD (p + 1) 0)) + (kn (X1.1.getD p 0))))))); simp only [List.append_assoc, List.cons_append, List.nil_append])) (fun k n0 n1 n2 n3 => ((hf_36 k n0 n1 n2 n3).trans ((hf_31 k n0 n1 n2 n3).trans ((hf_26 k n0 n1 n2 n3).trans (hf0 k n0 n1 n2 n3))))))
set_option maxRecDepth 100000 in
set_option maxHeartbeats 4000000 in
theorem c_X2_writeMerge {l : Launch} {G : Gm} {c : HP} {P Q p : Nat} {pk : Int} {X1 T : List Int × Int} {x : List Int} (hG : injG G) (hN : G.2.1 = 72) (hPQ : (P = 24 ∧ Q = 28) ∨ (P = 28 ∧ Q = 24)) (h23 : c23 G c P Q pk) (hE : Ex G c P (P + 1) (P + 2) (P + 3) X1) (hXG : XG X1.1) (hE2 : Ex G c Q (Q + 1) (Q + 2) (Q + 3) T) (hx : RsX T x) (hp : p + 1 < X1.1.length) (h0 : 1000000 ≤ X1.1.getD p 0) (h1 : 1000000 ≤ X1.1.getD (p + 1) 0) : AMet l G yX2_writeMerge cX2_writeMerge 12 (none) (rmR 2 64) [.ref (G.1 23), .int (zI ((p : Nat) : Int))] c (Qv (fun c' => ∃ T', Ex G c' Q (Q + 1) (Q + 2) (Q + 3) T' ∧ RsX T' (x ++ pcM X1.1 p) ∧ (∀ k, k ≠ Q → k ≠ Q + 1 → k ≠ Q + 2 → k ≠ Q + 3 → c' k = c k))) := by
  refine AMet.of (vl := [some (.ref (G.1 23)), some (.int (zI ((p : Nat) : Int)))]) (by decide) hG (Nat.le_of_ble_eq_true rfl) rfl ?_
  intro K X
  have X : Fx l G K cX2_writeMerge 12 RX2 (none) (rmR 2 64) := X
  have hXB := hXG.xb
  have hl1 := hE.len
  have nm := hXB.num (k := p) (by omega) h0
  have nm1 := hXB.num (k := p + 1) (by omega) h1
  have blf := bh_le (l := X1.1) (s := p + 2) 1 (by omega)
  have bgf := bh_ge X1.1 (p + 2) 1
  have blo := bh_le (l := X1.1) (s := p + 2) (1 + (kn (X1.1.getD (p + 1) 0))) (by omega)
  have ble := bh_le (l := X1.1) (s := p + 2) (1 + (kn (X1.1.getD (p + 1) 0)) + (kn (X1.1.getD p 0))) (by omega)
  have bmo := bh_mono X1.1 (p + 2) (1 + (kn (X1.1.getD (p + 1) 0))) (kn (X1.1.getD p 0))
  have bmb := bh_mono X1.1 (p + 2) 1 (kn (X1.1.getD (p + 1) 0))
  have bld := bh_le (l := X1.1) (s := p + 2) (1 + (kn (X1.1.getD (p + 1) 0)) + (min (kh (X1.1.getD (p + 1) 0)) (kn (X1.1.getD p 0)))) (by omega)
  have bmd := bh_mono X1.1 (p + 2) (1 + (kn (X1.1.getD (p + 1) 0)) + (min (kh (X1.1.getD (p + 1) 0)) (kn (X1.1.getD p 0)))) ((kn (X1.1.getD p 0)) - (min (kh (X1.1.getD (p + 1) 0)) (kn (X1.1.getD p 0))))
  rw [show 1 + (kn (X1.1.getD (p + 1) 0)) + (min (kh (X1.1.getD (p + 1) 0)) (kn (X1.1.getD p 0))) + ((kn (X1.1.getD p 0)) - (min (kh (X1.1.getD (p + 1) 0)) (kn (X1.1.getD p 0)))) = 1 + (kn (X1.1.getD (p + 1) 0)) + (kn (X1.1.getD p 0)) by omega] at bmd
  refine A_aload_n (q := 1) X dX2_writeMerge_0 rfl rfl ?_
  refine A_getf (q := 4) X fX2_12 dX2_writeMerge_1 (by omega) h23 rfl rfl ?_
  refine A_iload_n (q := 5) X dX2_writeMerge_4 rfl rfl ?_
  refine A_V1i (q := 8) X (c_X0_entriesAt hG hE (by omega)) mX0_entriesAt kX2_99 dX2_writeMerge_5 hE.lt hE.cell rfl (by decide) (Nat.le_of_ble_eq_true rfl) rfl (fun vq_3 cq_2 hq_1 => ?_)
  obtain ⟨rfl, hq_1⟩ := hq_1
  obtain rfl := hq_1.symm
  rw [eeA_in rfl (by omega), eeE_c h0]
  refine A_istore_n (q := 9) X dX2_writeMerge_8 (by decide) (okP_s rfl rfl) rfl ?_
  refine A_aload_n (q := 10) X dX2_writeMerge_9 rfl rfl ?_
  refine A_getf (q := 13) X fX2_12 dX2_writeMerge_10 (by omega) h23 rfl rfl ?_
  refine A_iload_n (q := 14) X dX2_writeMerge_13 rfl rfl ?_
  refine A_V1i (q := 17) X (c_X0_shiftAt hG hE (by omega)) mX0_shiftAt kX2_102 dX2_writeMerge_14 hE.lt hE.cell rfl (by decide) (Nat.le_of_ble_eq_true rfl) rfl (fun vq_6 cq_5 hq_4 => ?_)
  obtain ⟨rfl, hq_4⟩ := hq_4
  obtain rfl := hq_4.symm
  rw [shA_in rfl (by omega), shE_c h0]
  refine A_istore_n (q := 18) X dX2_writeMerge_17 (by decide) (okP_s rfl rfl) rfl ?_
  refine A_aload_n (q := 19) X dX2_writeMerge_18 rfl rfl ?_
  refine A_getf (q := 22) X fX2_12 dX2_writeMerge_19 (by omega) h23 rfl rfl ?_
  refine A_iload_n (q := 23) X dX2_writeMerge_22 rfl rfl ?_
  refine A_iconst (q := 24) X dX2_writeMerge_23 rfl ?_
  refine A_iadd (q := 25) X dX2_writeMerge_24 rfl ?_
  refine A_V1i (q := 28) X (c_X0_entriesAt hG hE (by omega)) mX0_entriesAt kX2_99 dX2_writeMerge_25 hE.lt hE.cell rfl (by decide) (Nat.le_of_ble_eq_true rfl) rfl (fun vq_9 cq_8 hq_7 => ?_)
  obtain ⟨rfl, hq_7⟩ := hq_7
  obtain rfl := hq_7.symm
  rw [eeA_in (k := p + 1) (by omega) hp, eeE_c h1]
  refine A_istore (q := 30) X dX2_writeMerge_28 (by decide) (okP_s rfl rfl) rfl ?_
  refine A_aload_n (q := 31) X dX2_writeMerge_30 rfl rfl ?_
  refine A_getf (q := 34) X fX2_12 dX2_writeMerge_31 (by omega) h23 rfl rfl ?_
  refine A_iload_n (q := 35) X dX2_writeMerge_34 rfl rfl ?_
  refine A_iconst (q := 36) X dX2_writeMerge_35 rfl ?_
  refine A_iadd (q := 37) X dX2_writeMerge_36 rfl ?_
  refine A_V1i (q := 40) X (c_X0_shiftAt hG hE (by omega)) mX0_shiftAt kX2_102 dX2_writeMerge_37 hE.lt hE.cell rfl (by decide) (Nat.le_of_ble_eq_true rfl) rfl (fun vq_12 cq_11 hq_10 => ?_)
  obtain ⟨rfl, hq_10⟩ := hq_10
  obtain rfl := hq_10.symm
  rw [shA_in (k := p + 1) (by omega) hp, shE_c h1]
  refine A_istore (q := 42) X dX2_writeMerge_40 (by decide) (okP_s rfl rfl) rfl ?_
  refine A_aload_n (q := 43) X dX2_writeMerge_42 rfl rfl ?_
  refine A_getf (q := 46) X fX2_12 dX2_writeMerge_43 (by omega) h23 rfl rfl ?_
  refine A_iload_n (q := 47) X dX2_writeMerge_46 rfl rfl ?_
  refine A_iconst (q := 48) X dX2_writeMerge_47 rfl ?_
  refine A_iadd (q := 49) X dX2_writeMerge_48 rfl ?_
  refine A_iconst (q := 50) X dX2_writeMerge_49 rfl ?_
  rw [show zI (((p : Nat) : Int) + 2) = zI ((((p) + 2) : Nat) : Int) from congrArg zI (by omega)]
  refine A_V2i (q := 53) X (c_X0_behind (s := (((p) + 2))) (n0 := 1) hG hE hXB (by omega) (by omega)) mX0_behind kX2_93 dX2_writeMerge_50 hE.lt hE.cell rfl (by decide) (Nat.le_of_ble_eq_true rfl) rfl (fun vq_15 cq_14 hq_13 => ?_)
  obtain ⟨rfl, hq_13⟩ := hq_13
  obtain rfl := hq_13.symm
  refine A_istore (q := 55) X dX2_writeMerge_53 (by decide) (okP_s rfl rfl) rfl ?_
  refine A_aload_n (q := 56) X dX2_writeMerge_55 rfl rfl ?_
  refine A_getf (q := 59) X fX2_12 dX2_writeMerge_56 (by omega) h23 rfl rfl ?_
  refine A_iload (q := 61) X dX2_writeMerge_59 rfl rfl ?_
  refine A_iload (q := 63) X dX2_writeMerge_61 rfl rfl ?_
  refine A_V2i (q := 66) X (c_X0_behind (s := ((bh X1.1 (((p) + 2)) 1))) (n0 := ((kn (X1.1.getD (p + 1) 0)))) hG hE hXB (by omega) (by omega)) mX0_behind kX2_93 dX2_writeMerge_63 hE.lt hE.cell rfl (by decide) (Nat.le_of_ble_eq_true rfl) rfl (fun vq_18 cq_17 hq_16 => ?_)
  obtain ⟨rfl, hq_16⟩ := hq_16
  obtain rfl := hq_16.symm
  rw [show bh X1.1 (bh X1.1 (p + 2) 1) (kn (X1.1.getD (p + 1) 0)) = bh X1.1 (p + 2) (1 + (kn (X1.1.getD (p + 1) 0))) from (bh_add X1.1 (p + 2) 1 _).symm]
  refine A_istore (q := 68) X dX2_writeMerge_66 (by decide) (okP_s rfl rfl) rfl ?_
  refine A_aload_n (q := 69) X dX2_writeMerge_68 rfl rfl ?_
  refine A_getf (q := 72) X fX2_12 dX2_writeMerge_69 (by omega) h23 rfl rfl ?_
  refine A_iload (q := 74) X dX2_writeMerge_72 rfl rfl ?_
  refine A_iload_n (q := 75) X dX2_writeMerge_74 rfl rfl ?_
  refine A_V2i (q := 78) X (c_X0_behind (s := ((bh X1.1 (p + 2) (1 + (kn (X1.1.getD (p + 1) 0)))))) (n0 := ((kn (X1.1.getD p 0)))) hG hE hXB (by omega) (by omega)) mX0_behind kX2_93 dX2_writeMerge_75 hE.lt hE.cell rfl (by decide) (Nat.le_of_ble_eq_true rfl) rfl (fun vq_21 cq_20 hq_19 => ?_)
  obtain ⟨rfl, hq_19⟩ := hq_19
  obtain rfl := hq_19.symm
  rw [show bh X1.1 (bh X1.1 (p + 2) (1 + (kn (X1.1.getD (p + 1) 0)))) (kn (X1.1.getD p 0)) = bh X1.1 (p + 2) (1 + (kn (X1.1.getD (p + 1) 0)) + (kn (X1.1.getD p 0))) from (bh_add X1.1 (p + 2) (1 + (kn (X1.1.getD (p + 1) 0))) _).symm]
  refine A_istore (q := 80) X dX2_writeMerge_78 (by decide) (okP_s rfl rfl) rfl ?_
  refine A_iload (q := 82) X dX2_writeMerge_80 rfl rfl ?_
  refine A_iload_n (q := 83) X dX2_writeMerge_82 rfl rfl ?_
  refine A_mmin (q := 86) X dX2_writeMerge_83 kX2_105 q_min1 q_math1 q_min2 (by omega) (by omega) (by decide) (Nat.le_of_ble_eq_true rfl) rfl ?_
  rw [show min (((kh (X1.1.getD (p + 1) 0)) : Nat) : Int) (((kn (X1.1.getD p 0)) : Nat) : Int) = (((min (kh (X1.1.getD (p + 1) 0)) (kn (X1.1.getD p 0))) : Nat) : Int) by omega]
  refine A_istore (q := 88) X dX2_writeMerge_86 (by decide) (okP_s rfl rfl) rfl ?_
  refine A_aload_n (q := 89) X dX2_writeMerge_88 rfl rfl ?_
  refine A_getf (q := 92) X fX2_18 dX2_writeMerge_89 (by omega) h23 rfl rfl ?_
  refine A_iload (q := 94) X dX2_writeMerge_92 rfl rfl ?_
  refine A_iload_n (q := 95) X dX2_writeMerge_94 rfl rfl ?_
  refine A_iadd (q := 96) X dX2_writeMerge_95 rfl ?_
  refine A_iload (q := 98) X dX2_writeMerge_96 rfl rfl ?_
  refine A_isub (q := 99) X dX2_writeMerge_98 rfl ?_
  refine A_iload (q := 101) X dX2_writeMerge_99 rfl rfl ?_
  refine A_iload (q := 103) X dX2_writeMerge_101 rfl rfl ?_
  refine A_isub (q := 104) X dX2_writeMerge_103 rfl ?_
  refine A_iload_n (q := 105) X dX2_writeMerge_104 rfl rfl ?_
  refine A_iadd (q := 106) X dX2_writeMerge_105 rfl ?_
  rw [show zI (((((kn (X1.1.getD (p + 1) 0)) : Nat) : Int) + (((kn (X1.1.getD p 0)) : Nat) : Int)) - (((min (kh (X1.1.getD (p + 1) 0)) (kn (X1.1.getD p 0))) : Nat) : Int)) = zI ((((((kn (X1.1.getD (p + 1) 0))) + ((kn (X1.1.getD p 0)))) - ((min (kh (X1.1.getD (p + 1) 0)) (kn (X1.1.getD p 0))))) : Nat) : Int) from congrArg zI (by omega)]
  rw [show zI (((((kh (X1.1.getD (p + 1) 0)) : Nat) : Int) - (((min (kh (X1.1.getD (p + 1) 0)) (kn (X1.1.getD p 0))) : Nat) : Int)) + (((kh (X1.1.getD p 0)) : Nat) : Int)) = zI ((((((kh (X1.1.getD (p + 1) 0))) - ((min (kh (X1.1.getD (p + 1) 0)) (kn (X1.1.getD p 0))))) + ((kh (X1.1.getD p 0)))) : Nat) : Int) from congrArg zI (by omega)]
  refine A_V2v (q := 109) X (c_X0_addClosure (n := (((((kn (X1.1.getD (p + 1) 0))) + ((kn (X1.1.getD p 0)))) - ((min (kh (X1.1.getD (p + 1) 0)) (kn (X1.1.getD p 0))))))) (k := (((((kh (X1.1.getD (p + 1) 0))) - ((min (kh (X1.1.getD (p + 1) 0)) (kn (X1.1.getD p 0))))) + ((kh (X1.1.getD p 0)))))) hG hE2 (by omega)) mX0_addClosure kX2_96 dX2_writeMerge_106 hE2.lt hE2.cell rfl (by decide) (Nat.le_of_ble_eq_true rfl) rfl (fun cq_23 hq_22 => ?_)
  obtain ⟨hE_24, hf_25⟩ := hq_22
  have hx_26 := RsX_add (clo (((((kn (X1.1.getD (p + 1) 0))) + ((kn (X1.1.getD p 0)))) - ((min (kh (X1.1.getD (p + 1) 0)) (kn (X1.1.getD p 0)))))) (((((kh (X1.1.getD (p + 1) 0))) - ((min (kh (X1.1.getD (p + 1) 0)) (kn (X1.1.getD p 0))))) + ((kh (X1.1.getD p 0)))))) hx
  refine A_aload_n (q := 110) X dX2_writeMerge_109 rfl rfl ?_
  refine A_getf (q := 113) X fX2_18 dX2_writeMerge_110 (by omega) ((hf_25 _ (by omega) (by omega) (by omega) (by omega)).trans h23) rfl rfl ?_
  refine A_aload_n (q := 114) X dX2_writeMerge_113 rfl rfl ?_
  refine A_getf (q := 117) X fX2_12 dX2_writeMerge_114 (by omega) ((hf_25 _ (by omega) (by omega) (by omega) (by omega)).trans h23) rfl rfl ?_
  refine A_iload_n (q := 118) X dX2_writeMerge_117 rfl rfl ?_
  refine A_iconst (q := 119) X dX2_writeMerge_118 rfl ?_
  refine A_iadd (q := 120) X dX2_writeMerge_119 rfl ?_
  refine A_iload (q := 122) X dX2_writeMerge_120 rfl rfl ?_
  rw [show zI (((p : Nat) : Int) + 2) = zI ((((p) + 2) : Nat) : Int) from congrArg zI (by omega)]
  refine A_V3v (q := 125) X (c_X0_addRange (i := (((p) + 2))) (j := ((bh X1.1 (((p) + 2)) 1))) hG hE_24 (hE.keep ((hf_25 P (by omega) (by omega) (by omega) (by omega)).trans rfl) ((hf_25 (P + 1) (by omega) (by omega) (by omega) (by omega)).trans rfl) ((hf_25 (P + 2) (by omega) (by omega) (by omega) (by omega)).trans rfl) ((hf_25 (P + 3) (by omega) (by omega) (by omega) (by omega)).trans rfl)) (by omega) (by omega) (by omega) (by omega) (by omega) (by omega) (by omega) (by omega) (by omega) (by omega) (by omega) (by omega) (by omega) (by omega) (by omega) (by omega) (by omega) (by omega)) mX0_addRange kX2_74 dX2_writeMerge_122 hE2.lt hE_24.cell rfl (by decide) (Nat.le_of_ble_eq_true rfl) rfl (fun cq_28 hq_27 => ?_)
  obtain ⟨hE_29, hf_30⟩ := hq_27
  have hx_31 := RsX_range (l := X1.1) (i := (((p) + 2))) (j := ((bh X1.1 (((p) + 2)) 1))) hx_26 (by omega) (by omega)
  refine A_iconst (q := 126) X dX2_writeMerge_125 rfl ?_
  refine A_istore (q := 128) X dX2_writeMerge_126 (by decide) (okP_s rfl rfl) rfl ?_
  rw [show (((bh X1.1 (((p) + 2)) 1) : Nat) : Int) = ((bh X1.1 (bh X1.1 (p + 2) 1) 0 : Nat) : Int) by rw [bh_0]]
  exact AW.loc (sS rfl (sS rfl (sS rfl (sS rfl (sS rfl (sS rfl (sS rfl (sS rfl (sS rfl (sS rfl (sZ rfl (by omega) (sN sE)))))))))))) (lp_X2_writeMerge X hG hN hPQ h23 hE hXG hp h0 h1 _ 0 _ _ (Nat.lt_succ_self _) (Nat.zero_le _) hE_29 (RsX_eq hx_31 (by show _ = (x ++ (clo ((kn (X1.1.getD (p + 1) 0)) + (kn (X1.1.getD p 0)) - (min (kh (X1.1.getD (p + 1) 0)) (kn (X1.1.getD p 0)))) ((kh (X1.1.getD (p + 1) 0)) - (min (kh (X1.1.getD (p + 1) 0)) (kn (X1.1.getD p 0))) + (kh (X1.1.getD p 0))) :: sl X1.1 (p + 2) (bh X1.1 (p + 2) 1))) ++ []; simp only [List.append_assoc, List.cons_append, List.nil_append, List.append_nil])) (fun k n0 n1 n2 n3 => ((hf_30 k n0 n1 n2 n3).trans ((hf_25 k n0 n1 n2 n3).trans rfl))))
