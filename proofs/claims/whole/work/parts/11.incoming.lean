set_option maxRecDepth 100000 in
set_option maxHeartbeats 4000000 in
theorem ok_In_end {E : zxE} {b f n : Nat} {F : Nat → zFn} {D : zMd} {B : zB} {ad : Int32} {bz : Bool} {nt : Nat → Int32} {o : Nat} {la : zMs} {ou : zOu} {p : Nat} {x : zIn} {xs : Nat → zIn} {de st : Int32} {nm hd : Int64} {Q : Option Value → zxH → Nat → Prop} (hf : f < 5) (hp : p < 2) (hq : Q none (zs b (B, foc F f (ad, bz, nt, o, la, ou, foc xs p (pc_iend x), de, st, nm, hd), D)) n) : zx_Ok E my_In_end mi_In_end [.ref (fa b f (7 + 3 * p))] (zs b (B, foc F f (ad, bz, nt, o, la, ou, foc xs p x, de, st, nm, hd), D)) n Q := by
  obtain ⟨⟨pk, so, gr, si, ta⟩, op, he, ex, lt, ak, du⟩ := x
  refine zx_start [some (.ref (fa b f (7 + 3 * p)))] (by decide) rfl rfl (Nat.le_of_ble_eq_true rfl) rfl ?_
  refine zx_aload_n (q := 1) dd_In_end_0 rfl rfl ?_
  refine zx_iconst (nI 0) (q := 2) dd_In_end_1 rfl (by decide) ?_
  refine zx_topi (x' := zb false) (by decide) ?_
  refine zx_put (q := 5) dd_In_end_2 rfl fl_In_46 (at_i7 hf hp) zb_nar zb_fit (Nat.le_of_ble_eq_true rfl) (up_i7 hf hp) ?_
  refine zx_aload_n (q := 6) dd_In_end_5 rfl rfl ?_
  refine zx_ldc2 _ (q := 9) dd_In_end_6 rfl kk_In_18 ?_
  refine zx_put (q := 12) dd_In_end_9 rfl fl_In_20 (at_i7 hf hp) rfl rfl (Nat.le_of_ble_eq_true rfl) (up_i7 hf hp) ?_
  exact zx_vret dd_In_end_12 rfl hq
set_option maxRecDepth 100000 in
set_option maxHeartbeats 4000000 in
theorem ok_In_isFrom {E : zxE} {b f n : Nat} {F : Nat → zFn} {D : zMd} {B : zB} {ad : Int32} {bz : Bool} {nt : Nat → Int32} {o : Nat} {la : zMs} {ou : zOu} {p : Nat} {x : zIn} {xs : Nat → zIn} {de st : Int32} {nm hd : Int64} {Q : Option Value → zxH → Nat → Prop} {s : Int32} {t : Bool} (hf : f < 5) (hp : p < 2) (hq : ∀ r, pc_isFrom x s t = r → Q (some (.int (zb r))) (zs b (B, foc F f (ad, bz, nt, o, la, ou, foc xs p x, de, st, nm, hd), D)) n) : zx_Ok E my_In_isFrom mi_In_isFrom [.ref (fa b f (7 + 3 * p)), .int s, .int (zb t)] (zs b (B, foc F f (ad, bz, nt, o, la, ou, foc xs p x, de, st, nm, hd), D)) n Q := by
  obtain ⟨⟨pk, so, gr, si, ta⟩, op, he, ex, lt, ak, du⟩ := x
  refine zx_start [some (.ref (fa b f (7 + 3 * p))), some (.int s), some (.int (zb t))] (by decide) rfl rfl (Nat.le_of_ble_eq_true rfl) rfl ?_
  refine zx_aload_n (q := 1) dd_In_isFrom_0 rfl rfl ?_
  refine zx_get (q := 4) dd_In_isFrom_1 rfl fl_In_46 (at_i7 hf hp) rfl ?_
  refine zx_if_eq 33 (q := 7) dd_In_isFrom_4 rfl (by decide) (fun hc1 => ?_) (fun hc1 => ?_)
  · skip
    replace hc1 := zb_0.mp hc1
    refine zx_iconst (nI 0) (q := 34) dd_In_isFrom_33 rfl (by decide) ?_
    exact zx_zret dd_In_isFrom_34 rfl (by decide) (by rw [zb_f]; exact hq _ (by first | (simp [pc_isFrom, hc1]; done) | (clear hq; simp_all [pc_isFrom]; done)))
  · skip
    replace hc1 := zb_n0.mp hc1
    refine zx_aload_n (q := 8) dd_In_isFrom_7 rfl rfl ?_
    refine zx_get (q := 11) dd_In_isFrom_8 rfl fl_In_12 (at_i7 hf hp) rfl ?_
    refine zx_get (q := 14) dd_In_isFrom_11 rfl fl_In_32 (at_i8 hf hp) rfl ?_
    refine zx_iload_n (q := 15) dd_In_isFrom_14 rfl rfl ?_
    refine zx_icmp_ne 33 (q := 18) dd_In_isFrom_15 rfl (by decide) (fun hc2 => ?_) (fun hc2 => ?_)
    · skip
      refine zx_iconst (nI 0) (q := 34) dd_In_isFrom_33 rfl (by decide) ?_
      exact zx_zret dd_In_isFrom_34 rfl (by decide) (by rw [zb_f]; exact hq _ (by first | (simp [pc_isFrom, hc1, hc2]; done) | (clear hq; simp_all [pc_isFrom]; done)))
    · skip
      refine zx_aload_n (q := 19) dd_In_isFrom_18 rfl rfl ?_
      refine zx_get (q := 22) dd_In_isFrom_19 rfl fl_In_12 (at_i7 hf hp) rfl ?_
      refine zx_get (q := 25) dd_In_isFrom_22 rfl fl_In_42 (at_i8 hf hp) rfl ?_
      refine zx_iload_n (q := 26) dd_In_isFrom_25 rfl rfl ?_
      refine zx_icmp_ne 33 (q := 29) dd_In_isFrom_26 rfl (by decide) (fun hc3 => ?_) (fun hc3 => ?_)
      · skip
        replace hc3 := eq_false (fun z => hc3 (zb_eq.mpr z))
        refine zx_iconst (nI 0) (q := 34) dd_In_isFrom_33 rfl (by decide) ?_
        exact zx_zret dd_In_isFrom_34 rfl (by decide) (by rw [zb_f]; exact hq _ (by first | (simp [pc_isFrom, hc1, eq_true hc2, hc3]; done) | (clear hq; simp_all [pc_isFrom]; done)))
      · skip
        replace hc3 := zb_eq.mp hc3
        refine zx_iconst (nI 1) (q := 30) dd_In_isFrom_29 rfl (by decide) ?_
        refine zx_goto 34 dd_In_isFrom_30 (by decide) ?_
        exact zx_zret dd_In_isFrom_34 rfl (by decide) (by rw [zb_1]; exact hq _ (by first | (simp [pc_isFrom, hc1, eq_true hc2, hc3]; done) | (clear hq; simp_all [pc_isFrom]; done)))
set_option maxRecDepth 100000 in
set_option maxHeartbeats 4000000 in
theorem ok_In_isWhole {E : zxE} {b f n : Nat} {F : Nat → zFn} {D : zMd} {B : zB} {ad : Int32} {bz : Bool} {nt : Nat → Int32} {o : Nat} {la : zMs} {ou : zOu} {p : Nat} {x : zIn} {xs : Nat → zIn} {de st : Int32} {nm hd : Int64} {Q : Option Value → zxH → Nat → Prop} (hf : f < 5) (hp : p < 2) (hq : ∀ r, pc_isWhole x = r → Q (some (.int (zb r))) (zs b (B, foc F f (ad, bz, nt, o, la, ou, foc xs p x, de, st, nm, hd), D)) n) : zx_Ok E my_In_isWhole mi_In_isWhole [.ref (fa b f (7 + 3 * p))] (zs b (B, foc F f (ad, bz, nt, o, la, ou, foc xs p x, de, st, nm, hd), D)) n Q := by
  obtain ⟨⟨pk, so, gr, si, ta⟩, op, he, ex, lt, ak, du⟩ := x
  refine zx_start [some (.ref (fa b f (7 + 3 * p)))] (by decide) rfl rfl (Nat.le_of_ble_eq_true rfl) rfl ?_
  refine zx_aload_n (q := 1) dd_In_isWhole_0 rfl rfl ?_
  refine zx_get (q := 4) dd_In_isWhole_1 rfl fl_In_49 (at_i7 hf hp) rfl ?_
  refine zx_aload_n (q := 5) dd_In_isWhole_4 rfl rfl ?_
  refine zx_get (q := 8) dd_In_isWhole_5 rfl fl_In_12 (at_i7 hf hp) rfl ?_
  refine zx_get (q := 11) dd_In_isWhole_8 rfl fl_In_39 (at_i8 hf hp) rfl ?_
  refine zx_cN1i (q := 14) dd_In_isWhole_11 rfl cs_In_isWhole_103 ⟨rfl, rfl⟩ (Nat.le_of_ble_eq_true rfl) ⟨Nat.zero_le _, Nat.zero_le _⟩ (ok_Ab_packetsFor ⟨_, rfl, ?_⟩)
  refine zx_icmp_le 21 (q := 17) dd_In_isWhole_14 rfl (by decide) (fun hc1 => ?_) (fun hc1 => ?_)
  · skip
    refine zx_iconst (nI 0) (q := 22) dd_In_isWhole_21 rfl (by decide) ?_
    exact zx_zret dd_In_isWhole_22 rfl (by decide) (by rw [zb_f]; exact hq _ (by first | (simp [pc_isWhole, hc1]; done) | (clear hq; simp_all [pc_isWhole]; done)))
  · skip
    refine zx_iconst (nI 1) (q := 18) dd_In_isWhole_17 rfl (by decide) ?_
    refine zx_goto 22 dd_In_isWhole_18 (by decide) ?_
    exact zx_zret dd_In_isWhole_22 rfl (by decide) (by rw [zb_1]; exact hq _ (by first | (simp [pc_isWhole, hc1]; done) | (clear hq; simp_all [pc_isWhole]; done)))
set_option maxRecDepth 100000 in
set_option maxHeartbeats 4000000 in
theorem ok_In_keepExpected {E : zxE} {b f n : Nat} {F : Nat → zFn} {D : zMd} {B : zB} {ad : Int32} {bz : Bool} {nt : Nat → Int32} {o : Nat} {la : zMs} {ou : zOu} {p : Nat} {x : zIn} {xs : Nat → zIn} {de st : Int32} {nm hd : Int64} {Q : Option Value → zxH → Nat → Prop} {d : Int64} (hf : f < 5) (hp : p < 2) (hex : x.2.2.2.1 < 100000) (hq : ∀ x', pc_keepEx x d = x' → Q none (zs b (B, foc F f (ad, bz, nt, o, la, ou, foc xs p x', de, st, nm, hd), D)) n) : zx_Ok E my_In_keepExpected mi_In_keepExpected [.ref (fa b f (7 + 3 * p)), .long d] (zs b (B, foc F f (ad, bz, nt, o, la, ou, foc xs p x, de, st, nm, hd), D)) n Q := by
  obtain ⟨⟨pk, so, gr, si, ta⟩, op, he, ex, lt, ak, du⟩ := x
  have hex : ex < 100000 := hex
  refine zx_start [some (.ref (fa b f (7 + 3 * p))), some (.long d), none] (by decide) rfl rfl (Nat.le_of_ble_eq_true rfl) rfl ?_
  refine zx_aload_n (q := 1) dd_In_keepExpected_0 rfl rfl ?_
  refine zx_get (q := 4) dd_In_keepExpected_1 rfl fl_In_12 (at_i7 hf hp) rfl ?_
  refine zx_aload_n (q := 5) dd_In_keepExpected_4 rfl rfl ?_
  refine zx_get (q := 8) dd_In_keepExpected_5 rfl fl_In_49 (at_i7 hf hp) rfl ?_
  refine zx_lload_n (q := 9) dd_In_keepExpected_8 rfl rfl ?_
  refine zx_cV2v (q := 12) dd_In_keepExpected_9 rfl cv_In_keepExpected_99 ⟨rfl, rfl⟩ (at_i8 hf hp) rfl rfl (Nat.le_of_ble_eq_true rfl) ⟨Nat.zero_le _, Nat.zero_le _⟩ (ok_Ms_keep hf hp hex fun m1 he1 => ⟨rfl, ?_⟩)
  obtain ⟨pk1, so1, gr1, si1, ta1⟩ := m1
  refine zx_aload_n (q := 13) dd_In_keepExpected_12 rfl rfl ?_
  refine zx_dup (q := 14) dd_In_keepExpected_13 rfl rfl ?_
  refine zx_get (q := 17) dd_In_keepExpected_14 rfl fl_In_49 (at_i7 hf hp) rfl ?_
  refine zx_iconst (nI 1) (q := 18) dd_In_keepExpected_17 rfl (by decide) ?_
  refine zx_iadd (q := 19) dd_In_keepExpected_18 rfl ?_
  refine zx_topi (nI_add _ _) ?_
  refine zx_put (q := 22) dd_In_keepExpected_19 rfl fl_In_49 (at_i7 hf hp) rfl rfl (Nat.le_of_ble_eq_true rfl) (up_i7 hf hp) ?_
  exact zx_vret dd_In_keepExpected_22 rfl (hq _ (by first | (simp [pc_keepEx, he1]; done) | (clear hq; simp_all [pc_keepEx]; done)))
set_option maxRecDepth 100000 in
set_option maxHeartbeats 4000000 in
theorem ok_In_grant {E : zxE} {b f n : Nat} {F : Nat → zFn} {D : zMd} {B : zB} {ad : Int32} {bz : Bool} {nt : Nat → Int32} {o : Nat} {la : zMs} {ou : zOu} {p : Nat} {x : zIn} {xs : Nat → zIn} {de st : Int32} {nm hd : Int64} {Q : Option Value → zxH → Nat → Prop} (hf : f < 5) (hp : p < 2) (hw : B.2.2.2.1 ≤ 48) (hq : ∀ B' x', pc_grant B (nI f) ad bz x = (B', x') → B'.2.2.2.1 ≤ 48 → Q none (zs b (B', foc F f (ad, bz, nt, o, la, ou, foc xs p x', de, st, nm, hd), D)) n) : zx_Ok E my_In_grant mi_In_grant [.ref (fa b f (7 + 3 * p))] (zs b (B, foc F f (ad, bz, nt, o, la, ou, foc xs p x, de, st, nm, hd), D)) n Q := by
  obtain ⟨ids, con, snd, cnt, ovf, now⟩ := B
  obtain ⟨⟨pk, so, gr, si, ta⟩, op, he, ex, lt, ak, du⟩ := x
  refine zx_start [some (.ref (fa b f (7 + 3 * p))), none, none, none, none] (by decide) rfl rfl (Nat.le_of_ble_eq_true rfl) rfl ?_
  refine zx_aload_n (q := 1) dd_In_grant_0 rfl rfl ?_
  refine zx_aload_n (q := 2) dd_In_grant_1 rfl rfl ?_
  refine zx_get (q := 5) dd_In_grant_2 rfl fl_In_28 (at_i7 hf hp) rfl ?_
  refine zx_get (q := 8) dd_In_grant_5 rfl fl_In_111 (at_f1 hf) rfl ?_
  refine zx_put (q := 11) dd_In_grant_8 rfl fl_In_68 (at_i7 hf hp) zb_nar zb_fit (Nat.le_of_ble_eq_true rfl) (up_i7 hf hp) ?_
  refine zx_aload_n (q := 12) dd_In_grant_11 rfl rfl ?_
  refine zx_get (q := 15) dd_In_grant_12 rfl fl_In_12 (at_i7 hf hp) rfl ?_
  refine zx_get (q := 18) dd_In_grant_15 rfl fl_In_39 (at_i8 hf hp) rfl ?_
  refine zx_cN1i (q := 21) dd_In_grant_18 rfl cs_In_grant_103 ⟨rfl, rfl⟩ (Nat.le_of_ble_eq_true rfl) ⟨Nat.zero_le _, Nat.zero_le _⟩ (ok_Ab_packetsFor ⟨_, rfl, ?_⟩)
  refine zx_aload_n (q := 22) dd_In_grant_21 rfl rfl ?_
  refine zx_get (q := 25) dd_In_grant_22 rfl fl_In_49 (at_i7 hf hp) rfl ?_
  refine zx_isub (q := 26) dd_In_grant_25 rfl ?_
  refine zx_iconst (nI 1) (q := 27) dd_In_grant_26 rfl (by decide) ?_
  refine zx_iadd (q := 28) dd_In_grant_27 rfl ?_
  refine zx_istore_1 (q := 29) dd_In_grant_28 rfl (by decide) rfl ?_
  refine zx_aload_n (q := 30) dd_In_grant_29 rfl rfl ?_
  refine zx_get (q := 33) dd_In_grant_30 rfl fl_In_68 (at_i7 hf hp) rfl ?_
  refine zx_if_eq 40 (q := 36) dd_In_grant_33 rfl (by decide) (fun hc1 => ?_) (fun hc1 => ?_)
  · skip
    replace hc1 := zb_0.mp hc1
    refine zx_iconst (nI 3) (q := 41) dd_In_grant_40 rfl (by decide) ?_
    refine zx_iload_n (q := 42) dd_In_grant_41 rfl rfl ?_
    refine zx_mmin (q := 45) dd_In_grant_42 rfl cw_In_116 (by decide) (Nat.le_of_ble_eq_true rfl) ⟨Nat.zero_le _, Nat.zero_le _⟩ ?_
    refine zx_istore_2 (q := 46) dd_In_grant_45 rfl (by decide) rfl ?_
    refine zx_aload_n (q := 47) dd_In_grant_46 rfl rfl ?_
    refine zx_aload_n (q := 48) dd_In_grant_47 rfl rfl ?_
    refine zx_get (q := 51) dd_In_grant_48 rfl fl_In_49 (at_i7 hf hp) rfl ?_
    refine zx_iload_n (q := 52) dd_In_grant_51 rfl rfl ?_
    refine zx_iadd (q := 53) dd_In_grant_52 rfl ?_
    refine zx_iconst (nI 1) (q := 54) dd_In_grant_53 rfl (by decide) ?_
    refine zx_isub (q := 55) dd_In_grant_54 rfl ?_
    refine zx_put (q := 58) dd_In_grant_55 rfl fl_In_87 (at_i7 hf hp) rfl rfl (Nat.le_of_ble_eq_true rfl) (up_i7 hf hp) ?_
    refine zx_bipush (nI 17) (q := 60) dd_In_grant_58 rfl (by decide) ?_
    refine zx_iload_n (q := 61) dd_In_grant_60 rfl rfl ?_
    refine zx_aload_n (q := 62) dd_In_grant_61 rfl rfl ?_
    refine zx_get (q := 65) dd_In_grant_62 rfl fl_In_49 (at_i7 hf hp) rfl ?_
    refine zx_sipush (nI 255) (q := 68) dd_In_grant_65 rfl (by decide) ?_
    refine zx_aload_n (q := 69) dd_In_grant_68 rfl rfl ?_
    refine zx_get (q := 72) dd_In_grant_69 rfl fl_In_12 (at_i7 hf hp) rfl ?_
    refine zx_get (q := 75) dd_In_grant_72 rfl fl_In_36 (at_i8 hf hp) rfl ?_
    refine zx_cN5l (q := 78) dd_In_grant_75 rfl cs_In_grant_122 ⟨rfl, rfl⟩ (Nat.le_of_ble_eq_true rfl) ⟨Nat.zero_le _, Nat.zero_le _⟩ (ok_Ab_controlData ⟨_, rfl, ?_⟩)
    refine zx_lstore_3 (q := 79) dd_In_grant_78 rfl (by decide) rfl ?_
    refine zx_aload_n (q := 80) dd_In_grant_79 rfl rfl ?_
    refine zx_get (q := 83) dd_In_grant_80 rfl fl_In_24 (at_i7 hf hp) rfl ?_
    refine zx_aload_n (q := 84) dd_In_grant_83 rfl rfl ?_
    refine zx_get (q := 87) dd_In_grant_84 rfl fl_In_28 (at_i7 hf hp) rfl ?_
    refine zx_ldc _ (q := 89) dd_In_grant_87 rfl kk_In_90 ?_
    refine zx_aload_n (q := 90) dd_In_grant_89 rfl rfl ?_
    refine zx_get (q := 93) dd_In_grant_90 rfl fl_In_12 (at_i7 hf hp) rfl ?_
    refine zx_get (q := 96) dd_In_grant_93 rfl fl_In_32 (at_i8 hf hp) rfl ?_
    refine zx_lload_n (q := 97) dd_In_grant_96 rfl rfl ?_
    refine zx_cV4v (q := 100) dd_In_grant_97 rfl cv_In_grant_95 ⟨rfl, rfl⟩ at_b1 rfl rfl (Nat.le_of_ble_eq_true rfl) ⟨Nat.zero_le _, Nat.zero_le _⟩ (ok_Bu_put hf hw fun B2 he2 hw2 => ⟨rfl, ?_⟩)
    obtain ⟨ids2, con2, snd2, cnt2, ovf2, now2⟩ := B2
    refine zx_aload_n (q := 101) dd_In_grant_100 rfl rfl ?_
    refine zx_aload_n (q := 102) dd_In_grant_101 rfl rfl ?_
    refine zx_get (q := 105) dd_In_grant_102 rfl fl_In_24 (at_i7 hf hp) rfl ?_
    refine zx_get (q := 108) dd_In_grant_105 rfl fl_In_55 at_b1 rfl ?_
    refine zx_aload_n (q := 109) dd_In_grant_108 rfl rfl ?_
    refine zx_get (q := 112) dd_In_grant_109 rfl fl_In_68 (at_i7 hf hp) rfl ?_
    refine zx_if_eq 121 (q := 115) dd_In_grant_112 rfl (by decide) (fun hc2 => ?_) (fun hc2 => ?_)
    · skip
      replace hc2 := zb_0.mp hc2
      refine zx_sipush (nI 1250) (q := 124) dd_In_grant_121 rfl (by decide) ?_
      refine zx_i2l (q := 125) dd_In_grant_124 rfl ?_
      refine zx_topl (nI_l (by decide)) ?_
      refine zx_ladd (q := 126) dd_In_grant_125 rfl ?_
      refine zx_put (q := 129) dd_In_grant_126 rfl fl_In_20 (at_i7 hf hp) rfl rfl (Nat.le_of_ble_eq_true rfl) (up_i7 hf hp) ?_
      exact zx_vret dd_In_grant_129 rfl (hq _ _ (by first | (simp [pc_grant, hc1, he2, hc2]; done) | (clear hq; simp_all [pc_grant]; done)) hw2)
    · skip
      replace hc2 := zb_n0.mp hc2
      refine zx_sipush (nI 500) (q := 118) dd_In_grant_115 rfl (by decide) ?_
      refine zx_goto 124 dd_In_grant_118 (by decide) ?_
      refine zx_i2l (q := 125) dd_In_grant_124 rfl ?_
      refine zx_topl (nI_l (by decide)) ?_
      refine zx_ladd (q := 126) dd_In_grant_125 rfl ?_
      refine zx_put (q := 129) dd_In_grant_126 rfl fl_In_20 (at_i7 hf hp) rfl rfl (Nat.le_of_ble_eq_true rfl) (up_i7 hf hp) ?_
      exact zx_vret dd_In_grant_129 rfl (hq _ _ (by first | (simp [pc_grant, hc1, he2, hc2]; done) | (clear hq; simp_all [pc_grant]; done)) hw2)
  · skip
    replace hc1 := zb_n0.mp hc1
    refine zx_iconst (nI 0) (q := 37) dd_In_grant_36 rfl (by decide) ?_
    refine zx_goto 45 dd_In_grant_37 (by decide) ?_
    refine zx_istore_2 (q := 46) dd_In_grant_45 rfl (by decide) rfl ?_
    refine zx_aload_n (q := 47) dd_In_grant_46 rfl rfl ?_
    refine zx_aload_n (q := 48) dd_In_grant_47 rfl rfl ?_
    refine zx_get (q := 51) dd_In_grant_48 rfl fl_In_49 (at_i7 hf hp) rfl ?_
    refine zx_iload_n (q := 52) dd_In_grant_51 rfl rfl ?_
    refine zx_iadd (q := 53) dd_In_grant_52 rfl ?_
    refine zx_iconst (nI 1) (q := 54) dd_In_grant_53 rfl (by decide) ?_
    refine zx_isub (q := 55) dd_In_grant_54 rfl ?_
    refine zx_put (q := 58) dd_In_grant_55 rfl fl_In_87 (at_i7 hf hp) rfl rfl (Nat.le_of_ble_eq_true rfl) (up_i7 hf hp) ?_
    refine zx_bipush (nI 17) (q := 60) dd_In_grant_58 rfl (by decide) ?_
    refine zx_iload_n (q := 61) dd_In_grant_60 rfl rfl ?_
    refine zx_aload_n (q := 62) dd_In_grant_61 rfl rfl ?_
    refine zx_get (q := 65) dd_In_grant_62 rfl fl_In_49 (at_i7 hf hp) rfl ?_
    refine zx_sipush (nI 255) (q := 68) dd_In_grant_65 rfl (by decide) ?_
    refine zx_aload_n (q := 69) dd_In_grant_68 rfl rfl ?_
    refine zx_get (q := 72) dd_In_grant_69 rfl fl_In_12 (at_i7 hf hp) rfl ?_
    refine zx_get (q := 75) dd_In_grant_72 rfl fl_In_36 (at_i8 hf hp) rfl ?_
    refine zx_cN5l (q := 78) dd_In_grant_75 rfl cs_In_grant_122 ⟨rfl, rfl⟩ (Nat.le_of_ble_eq_true rfl) ⟨Nat.zero_le _, Nat.zero_le _⟩ (ok_Ab_controlData ⟨_, rfl, ?_⟩)
    refine zx_lstore_3 (q := 79) dd_In_grant_78 rfl (by decide) rfl ?_
    refine zx_aload_n (q := 80) dd_In_grant_79 rfl rfl ?_
    refine zx_get (q := 83) dd_In_grant_80 rfl fl_In_24 (at_i7 hf hp) rfl ?_
    refine zx_aload_n (q := 84) dd_In_grant_83 rfl rfl ?_
    refine zx_get (q := 87) dd_In_grant_84 rfl fl_In_28 (at_i7 hf hp) rfl ?_
    refine zx_ldc _ (q := 89) dd_In_grant_87 rfl kk_In_90 ?_
    refine zx_aload_n (q := 90) dd_In_grant_89 rfl rfl ?_
    refine zx_get (q := 93) dd_In_grant_90 rfl fl_In_12 (at_i7 hf hp) rfl ?_
    refine zx_get (q := 96) dd_In_grant_93 rfl fl_In_32 (at_i8 hf hp) rfl ?_
    refine zx_lload_n (q := 97) dd_In_grant_96 rfl rfl ?_
    refine zx_cV4v (q := 100) dd_In_grant_97 rfl cv_In_grant_95 ⟨rfl, rfl⟩ at_b1 rfl rfl (Nat.le_of_ble_eq_true rfl) ⟨Nat.zero_le _, Nat.zero_le _⟩ (ok_Bu_put hf hw fun B3 he3 hw3 => ⟨rfl, ?_⟩)
    obtain ⟨ids3, con3, snd3, cnt3, ovf3, now3⟩ := B3
    refine zx_aload_n (q := 101) dd_In_grant_100 rfl rfl ?_
    refine zx_aload_n (q := 102) dd_In_grant_101 rfl rfl ?_
    refine zx_get (q := 105) dd_In_grant_102 rfl fl_In_24 (at_i7 hf hp) rfl ?_
    refine zx_get (q := 108) dd_In_grant_105 rfl fl_In_55 at_b1 rfl ?_
    refine zx_aload_n (q := 109) dd_In_grant_108 rfl rfl ?_
    refine zx_get (q := 112) dd_In_grant_109 rfl fl_In_68 (at_i7 hf hp) rfl ?_
    refine zx_if_eq 121 (q := 115) dd_In_grant_112 rfl (by decide) (fun hc3 => ?_) (fun hc3 => ?_)
    · skip
      replace hc3 := zb_0.mp hc3
      refine zx_sipush (nI 1250) (q := 124) dd_In_grant_121 rfl (by decide) ?_
      refine zx_i2l (q := 125) dd_In_grant_124 rfl ?_
      refine zx_topl (nI_l (by decide)) ?_
      refine zx_ladd (q := 126) dd_In_grant_125 rfl ?_
      refine zx_put (q := 129) dd_In_grant_126 rfl fl_In_20 (at_i7 hf hp) rfl rfl (Nat.le_of_ble_eq_true rfl) (up_i7 hf hp) ?_
      exact zx_vret dd_In_grant_129 rfl (hq _ _ (by first | (simp [pc_grant, hc1, he3, hc3]; done) | (clear hq; simp_all [pc_grant]; done)) hw3)
    · skip
      replace hc3 := zb_n0.mp hc3
      refine zx_sipush (nI 500) (q := 118) dd_In_grant_115 rfl (by decide) ?_
      refine zx_goto 124 dd_In_grant_118 (by decide) ?_
      refine zx_i2l (q := 125) dd_In_grant_124 rfl ?_
      refine zx_topl (nI_l (by decide)) ?_
      refine zx_ladd (q := 126) dd_In_grant_125 rfl ?_
      refine zx_put (q := 129) dd_In_grant_126 rfl fl_In_20 (at_i7 hf hp) rfl rfl (Nat.le_of_ble_eq_true rfl) (up_i7 hf hp) ?_
      exact zx_vret dd_In_grant_129 rfl (hq _ _ (by first | (simp [pc_grant, hc1, he3, hc3]; done) | (clear hq; simp_all [pc_grant]; done)) hw3)
set_option maxRecDepth 100000 in
set_option maxHeartbeats 4000000 in
theorem ok_In_begin {E : zxE} {b f n : Nat} {F : Nat → zFn} {D : zMd} {B : zB} {ad : Int32} {bz : Bool} {nt : Nat → Int32} {o : Nat} {la : zMs} {ou : zOu} {p : Nat} {x : zIn} {xs : Nat → zIn} {de st : Int32} {nm hd : Int64} {Q : Option Value → zxH → Nat → Prop} {s g z : Int32} {t : Bool} (hf : f < 5) (hp : p < 2) (hw : B.2.2.2.1 ≤ 48) (hq : ∀ B' x', pc_ibegin B (nI f) ad bz x s g z t = (B', x') → B'.2.2.2.1 ≤ 48 → Q none (zs b (B', foc F f (ad, bz, nt, o, la, ou, foc xs p x', de, st, nm, hd), D)) n) : zx_Ok E my_In_begin mi_In_begin [.ref (fa b f (7 + 3 * p)), .int s, .int g, .int z, .int (zb t)] (zs b (B, foc F f (ad, bz, nt, o, la, ou, foc xs p x, de, st, nm, hd), D)) n Q := by
  obtain ⟨ids, con, snd, cnt, ovf, now⟩ := B
  obtain ⟨⟨pk, so, gr, si, ta⟩, op, he, ex, lt, ak, du⟩ := x
  refine zx_start [some (.ref (fa b f (7 + 3 * p))), some (.int s), some (.int g), some (.int z), some (.int (zb t))] (by decide) rfl rfl (Nat.le_of_ble_eq_true rfl) rfl ?_
  refine zx_aload_n (q := 1) dd_In_begin_0 rfl rfl ?_
  refine zx_get (q := 4) dd_In_begin_1 rfl fl_In_12 (at_i7 hf hp) rfl ?_
  refine zx_iload_n (q := 5) dd_In_begin_4 rfl rfl ?_
  refine zx_put (q := 8) dd_In_begin_5 rfl fl_In_32 (at_i8 hf hp) rfl rfl (Nat.le_of_ble_eq_true rfl) (up_i8 hf hp) ?_
  refine zx_aload_n (q := 9) dd_In_begin_8 rfl rfl ?_
  refine zx_get (q := 12) dd_In_begin_9 rfl fl_In_12 (at_i7 hf hp) rfl ?_
  refine zx_iload_n (q := 13) dd_In_begin_12 rfl rfl ?_
  refine zx_put (q := 16) dd_In_begin_13 rfl fl_In_36 (at_i8 hf hp) rfl rfl (Nat.le_of_ble_eq_true rfl) (up_i8 hf hp) ?_
  refine zx_aload_n (q := 17) dd_In_begin_16 rfl rfl ?_
  refine zx_get (q := 20) dd_In_begin_17 rfl fl_In_12 (at_i7 hf hp) rfl ?_
  refine zx_iload_n (q := 21) dd_In_begin_20 rfl rfl ?_
  refine zx_put (q := 24) dd_In_begin_21 rfl fl_In_39 (at_i8 hf hp) rfl rfl (Nat.le_of_ble_eq_true rfl) (up_i8 hf hp) ?_
  refine zx_aload_n (q := 25) dd_In_begin_24 rfl rfl ?_
  refine zx_get (q := 28) dd_In_begin_25 rfl fl_In_12 (at_i7 hf hp) rfl ?_
  refine zx_iload (q := 30) dd_In_begin_28 rfl rfl ?_
  refine zx_put (q := 33) dd_In_begin_30 rfl fl_In_42 (at_i8 hf hp) zb_nar zb_fit (Nat.le_of_ble_eq_true rfl) (up_i8 hf hp) ?_
  refine zx_aload_n (q := 34) dd_In_begin_33 rfl rfl ?_
  refine zx_iconst (nI 1) (q := 35) dd_In_begin_34 rfl (by decide) ?_
  refine zx_topi (x' := zb true) (by decide) ?_
  refine zx_put (q := 38) dd_In_begin_35 rfl fl_In_46 (at_i7 hf hp) zb_nar zb_fit (Nat.le_of_ble_eq_true rfl) (up_i7 hf hp) ?_
  refine zx_aload_n (q := 39) dd_In_begin_38 rfl rfl ?_
  refine zx_iconst (nI 1) (q := 40) dd_In_begin_39 rfl (by decide) ?_
  refine zx_put (q := 43) dd_In_begin_40 rfl fl_In_49 (at_i7 hf hp) rfl rfl (Nat.le_of_ble_eq_true rfl) (up_i7 hf hp) ?_
  refine zx_aload_n (q := 44) dd_In_begin_43 rfl rfl ?_
  refine zx_iconst (nI 0) (q := 45) dd_In_begin_44 rfl (by decide) ?_
  refine zx_put (q := 48) dd_In_begin_45 rfl fl_In_52 (at_i7 hf hp) rfl rfl (Nat.le_of_ble_eq_true rfl) (up_i7 hf hp) ?_
  refine zx_iload (q := 50) dd_In_begin_48 rfl rfl ?_
  refine zx_if_eq 71 (q := 53) dd_In_begin_50 rfl (by decide) (fun hc1 => ?_) (fun hc1 => ?_)
  · skip
    replace hc1 := zb_0.mp hc1
    refine zx_aload_n (q := 72) dd_In_begin_71 rfl rfl ?_
    refine zx_cV0v (q := 75) dd_In_begin_72 rfl cv_In_begin_62 ⟨rfl, rfl⟩ (at_i7 hf hp) rfl rfl (Nat.le_of_ble_eq_true rfl) ⟨Nat.zero_le _, Nat.zero_le _⟩ (ok_In_grant hf hp hw fun B4 x4 he4 hw4 => ⟨rfl, ?_⟩)
    obtain ⟨ids4, con4, snd4, cnt4, ovf4, now4⟩ := B4
    obtain ⟨⟨pk4, so4, gr4, si4, ta4⟩, op4, he4_, ex4, lt4, ak4, du4⟩ := x4
    exact zx_vret dd_In_begin_75 rfl (hq _ _ (by first | (simp [pc_ibegin, hc1, he4]; done) | (clear hq; simp_all [pc_ibegin]; done)) hw4)
  · skip
    replace hc1 := zb_n0.mp hc1
    refine zx_aload_n (q := 54) dd_In_begin_53 rfl rfl ?_
    refine zx_aload_n (q := 55) dd_In_begin_54 rfl rfl ?_
    refine zx_get (q := 58) dd_In_begin_55 rfl fl_In_24 (at_i7 hf hp) rfl ?_
    refine zx_get (q := 61) dd_In_begin_58 rfl fl_In_55 at_b1 rfl ?_
    refine zx_ldc2 _ (q := 64) dd_In_begin_61 rfl kk_In_60 ?_
    refine zx_ladd (q := 65) dd_In_begin_64 rfl ?_
    refine zx_put (q := 68) dd_In_begin_65 rfl fl_In_20 (at_i7 hf hp) rfl rfl (Nat.le_of_ble_eq_true rfl) (up_i7 hf hp) ?_
    refine zx_goto 75 dd_In_begin_68 (by decide) ?_
    exact zx_vret dd_In_begin_75 rfl (hq _ _ (by first | (simp [pc_ibegin, hc1]; done) | (clear hq; simp_all [pc_ibegin]; done)) hw)
set_option maxRecDepth 100000 in
set_option maxHeartbeats 4000000 in
theorem ok_In_askAgain {E : zxE} {b f n : Nat} {F : Nat → zFn} {D : zMd} {B : zB} {ad : Int32} {bz : Bool} {nt : Nat → Int32} {o : Nat} {la : zMs} {ou : zOu} {p : Nat} {x : zIn} {xs : Nat → zIn} {de st : Int32} {nm hd : Int64} {Q : Option Value → zxH → Nat → Prop} {re : Int32} (hf : f < 5) (hp : p < 2) (hw : B.2.2.2.1 ≤ 48) (hq : ∀ B' x', pc_askAgain B (nI f) ad bz x re = (B', x') → B'.2.2.2.1 ≤ 48 → Q none (zs b (B', foc F f (ad, bz, nt, o, la, ou, foc xs p x', de, st, nm, hd), D)) n) : zx_Ok E my_In_askAgain mi_In_askAgain [.ref (fa b f (7 + 3 * p)), .int re] (zs b (B, foc F f (ad, bz, nt, o, la, ou, foc xs p x, de, st, nm, hd), D)) n Q := by
  obtain ⟨ids, con, snd, cnt, ovf, now⟩ := B
  obtain ⟨⟨pk, so, gr, si, ta⟩, op, he, ex, lt, ak, du⟩ := x
  refine zx_start [some (.ref (fa b f (7 + 3 * p))), some (.int re)] (by decide) rfl rfl (Nat.le_of_ble_eq_true rfl) rfl ?_
  refine zx_aload_n (q := 1) dd_In_askAgain_0 rfl rfl ?_
  refine zx_dup (q := 2) dd_In_askAgain_1 rfl rfl ?_
  refine zx_get (q := 5) dd_In_askAgain_2 rfl fl_In_52 (at_i7 hf hp) rfl ?_
  refine zx_iconst (nI 1) (q := 6) dd_In_askAgain_5 rfl (by decide) ?_
  refine zx_iadd (q := 7) dd_In_askAgain_6 rfl ?_
  refine zx_put (q := 10) dd_In_askAgain_7 rfl fl_In_52 (at_i7 hf hp) rfl rfl (Nat.le_of_ble_eq_true rfl) (up_i7 hf hp) ?_
  refine zx_aload_n (q := 11) dd_In_askAgain_10 rfl rfl ?_
  refine zx_get (q := 14) dd_In_askAgain_11 rfl fl_In_52 (at_i7 hf hp) rfl ?_
  refine zx_iconst (nI 3) (q := 15) dd_In_askAgain_14 rfl (by decide) ?_
  refine zx_icmp_ge 25 (q := 18) dd_In_askAgain_15 rfl (by decide) (fun hc1 => ?_) (fun hc1 => ?_)
  · skip
    refine zx_aload_n (q := 26) dd_In_askAgain_25 rfl rfl ?_
    refine zx_get (q := 29) dd_In_askAgain_26 rfl fl_In_24 (at_i7 hf hp) rfl ?_
    refine zx_aload_n (q := 30) dd_In_askAgain_29 rfl rfl ?_
    refine zx_get (q := 33) dd_In_askAgain_30 rfl fl_In_28 (at_i7 hf hp) rfl ?_
    refine zx_ldc _ (q := 35) dd_In_askAgain_33 rfl kk_In_90 ?_
    refine zx_aload_n (q := 36) dd_In_askAgain_35 rfl rfl ?_
    refine zx_get (q := 39) dd_In_askAgain_36 rfl fl_In_12 (at_i7 hf hp) rfl ?_
    refine zx_get (q := 42) dd_In_askAgain_39 rfl fl_In_32 (at_i8 hf hp) rfl ?_
    refine zx_iload_n (q := 43) dd_In_askAgain_42 rfl rfl ?_
    refine zx_aload_n (q := 44) dd_In_askAgain_43 rfl rfl ?_
    refine zx_get (q := 47) dd_In_askAgain_44 rfl fl_In_12 (at_i7 hf hp) rfl ?_
    refine zx_get (q := 50) dd_In_askAgain_47 rfl fl_In_36 (at_i8 hf hp) rfl ?_
    refine zx_cN2l (q := 53) dd_In_askAgain_50 rfl cs_In_askAgain_107 ⟨rfl, rfl⟩ (Nat.le_of_ble_eq_true rfl) ⟨Nat.zero_le _, Nat.zero_le _⟩ (ok_Ab_abortData ⟨_, rfl, ?_⟩)
    refine zx_cV4v (q := 56) dd_In_askAgain_53 rfl cv_In_askAgain_95 ⟨rfl, rfl⟩ at_b1 rfl rfl (Nat.le_of_ble_eq_true rfl) ⟨Nat.zero_le _, Nat.zero_le _⟩ (ok_Bu_put hf hw fun B5 he5 hw5 => ⟨rfl, ?_⟩)
    obtain ⟨ids5, con5, snd5, cnt5, ovf5, now5⟩ := B5
    refine zx_aload_n (q := 57) dd_In_askAgain_56 rfl rfl ?_
    refine zx_cV0v (q := 60) dd_In_askAgain_57 rfl cv_In_askAgain_65 ⟨rfl, rfl⟩ (at_i7 hf hp) rfl rfl (Nat.le_of_ble_eq_true rfl) ⟨Nat.zero_le _, Nat.zero_le _⟩ (ok_In_end hf hp ⟨rfl, ?_⟩)
    exact zx_vret dd_In_askAgain_60 rfl (hq _ _ (by first | (simp [pc_askAgain, hc1, he5]; done) | (clear hq; simp_all [pc_askAgain]; done)) hw5)
  · skip
    refine zx_aload_n (q := 19) dd_In_askAgain_18 rfl rfl ?_
    refine zx_cV0v (q := 22) dd_In_askAgain_19 rfl cv_In_askAgain_62 ⟨rfl, rfl⟩ (at_i7 hf hp) rfl rfl (Nat.le_of_ble_eq_true rfl) ⟨Nat.zero_le _, Nat.zero_le _⟩ (ok_In_grant hf hp hw fun B6 x6 he6 hw6 => ⟨rfl, ?_⟩)
    obtain ⟨ids6, con6, snd6, cnt6, ovf6, now6⟩ := B6
    obtain ⟨⟨pk6, so6, gr6, si6, ta6⟩, op6, he6_, ex6, lt6, ak6, du6⟩ := x6
    refine zx_goto 60 dd_In_askAgain_22 (by decide) ?_
    exact zx_vret dd_In_askAgain_60 rfl (hq _ _ (by first | (simp [pc_askAgain, hc1, he6]; done) | (clear hq; simp_all [pc_askAgain]; done)) hw6)
set_option maxRecDepth 100000 in
set_option maxHeartbeats 4000000 in
theorem ok_In_goOff {E : zxE} {b f n : Nat} {F : Nat → zFn} {D : zMd} {B : zB} {ad : Int32} {bz : Bool} {nt : Nat → Int32} {o : Nat} {la : zMs} {ou : zOu} {p : Nat} {x : zIn} {xs : Nat → zIn} {de st : Int32} {nm hd : Int64} {Q : Option Value → zxH → Nat → Prop} (hf : f < 5) (hp : p < 2) (hw : B.2.2.2.1 ≤ 48) (hq : ∀ B' x', pc_igoOff B (nI f) ad bz x = (B', x') → B'.2.2.2.1 ≤ 48 → Q none (zs b (B', foc F f (ad, bz, nt, o, la, ou, foc xs p x', de, st, nm, hd), D)) n) : zx_Ok E my_In_goOff mi_In_goOff [.ref (fa b f (7 + 3 * p))] (zs b (B, foc F f (ad, bz, nt, o, la, ou, foc xs p x, de, st, nm, hd), D)) n Q := by
  obtain ⟨ids, con, snd, cnt, ovf, now⟩ := B
  obtain ⟨⟨pk, so, gr, si, ta⟩, op, he, ex, lt, ak, du⟩ := x
  refine zx_start [some (.ref (fa b f (7 + 3 * p)))] (by decide) rfl rfl (Nat.le_of_ble_eq_true rfl) rfl ?_
  refine zx_aload_n (q := 1) dd_In_goOff_0 rfl rfl ?_
  refine zx_get (q := 4) dd_In_goOff_1 rfl fl_In_12 (at_i7 hf hp) rfl ?_
  refine zx_get (q := 7) dd_In_goOff_4 rfl fl_In_42 (at_i8 hf hp) rfl ?_
  refine zx_if_eq 17 (q := 10) dd_In_goOff_7 rfl (by decide) (fun hc1 => ?_) (fun hc1 => ?_)
  · skip
    replace hc1 := zb_0.mp hc1
    refine zx_aload_n (q := 18) dd_In_goOff_17 rfl rfl ?_
    refine zx_get (q := 21) dd_In_goOff_18 rfl fl_In_68 (at_i7 hf hp) rfl ?_
    refine zx_if_eq 31 (q := 24) dd_In_goOff_21 rfl (by decide) (fun hc2 => ?_) (fun hc2 => ?_)
    · skip
      replace hc2 := zb_0.mp hc2
      refine zx_aload_n (q := 32) dd_In_goOff_31 rfl rfl ?_
      refine zx_iconst (nI 3) (q := 33) dd_In_goOff_32 rfl (by decide) ?_
      refine zx_cV1v (q := 36) dd_In_goOff_33 rfl cv_In_goOff_71 ⟨rfl, rfl⟩ (at_i7 hf hp) rfl rfl (Nat.le_of_ble_eq_true rfl) ⟨Nat.zero_le _, Nat.zero_le _⟩ (ok_In_askAgain hf hp hw fun B7 x7 he7 hw7 => ⟨rfl, ?_⟩)
      obtain ⟨ids7, con7, snd7, cnt7, ovf7, now7⟩ := B7
      obtain ⟨⟨pk7, so7, gr7, si7, ta7⟩, op7, he7_, ex7, lt7, ak7, du7⟩ := x7
      exact zx_vret dd_In_goOff_36 rfl (hq _ _ (by first | (simp [pc_igoOff, hc1, hc2, he7]; done) | (clear hq; simp_all [pc_igoOff]; done)) hw7)
    · skip
      replace hc2 := zb_n0.mp hc2
      refine zx_aload_n (q := 25) dd_In_goOff_24 rfl rfl ?_
      refine zx_cV0v (q := 28) dd_In_goOff_25 rfl cv_In_goOff_62 ⟨rfl, rfl⟩ (at_i7 hf hp) rfl rfl (Nat.le_of_ble_eq_true rfl) ⟨Nat.zero_le _, Nat.zero_le _⟩ (ok_In_grant hf hp hw fun B8 x8 he8 hw8 => ⟨rfl, ?_⟩)
      obtain ⟨ids8, con8, snd8, cnt8, ovf8, now8⟩ := B8
      obtain ⟨⟨pk8, so8, gr8, si8, ta8⟩, op8, he8_, ex8, lt8, ak8, du8⟩ := x8
      refine zx_goto 36 dd_In_goOff_28 (by decide) ?_
      exact zx_vret dd_In_goOff_36 rfl (hq _ _ (by first | (simp [pc_igoOff, hc1, hc2, he8]; done) | (clear hq; simp_all [pc_igoOff]; done)) hw8)
  · skip
    replace hc1 := zb_n0.mp hc1
    refine zx_aload_n (q := 11) dd_In_goOff_10 rfl rfl ?_
    refine zx_cV0v (q := 14) dd_In_goOff_11 rfl cv_In_goOff_65 ⟨rfl, rfl⟩ (at_i7 hf hp) rfl rfl (Nat.le_of_ble_eq_true rfl) ⟨Nat.zero_le _, Nat.zero_le _⟩ (ok_In_end hf hp ⟨rfl, ?_⟩)
    refine zx_goto 36 dd_In_goOff_14 (by decide) ?_
    exact zx_vret dd_In_goOff_36 rfl (hq _ _ (by first | (simp [pc_igoOff, hc1]; done) | (clear hq; simp_all [pc_igoOff]; done)) hw)
set_option maxRecDepth 100000 in
set_option maxHeartbeats 4000000 in
theorem ok_In_takeToAll {E : zxE} {b f n : Nat} {F : Nat → zFn} {D : zMd} {B : zB} {ad : Int32} {bz : Bool} {nt : Nat → Int32} {o : Nat} {la : zMs} {ou : zOu} {p : Nat} {x : zIn} {xs : Nat → zIn} {de st : Int32} {nm hd : Int64} {Q : Option Value → zxH → Nat → Prop} {d : Int64} (hf : f < 5) (hp : p < 2) (hex : x.2.2.2.1 < 100000) (hq : ∀ r x', pc_takeAll B x d = (r, x') → Q (some (.int (zb r))) (zs b (B, foc F f (ad, bz, nt, o, la, ou, foc xs p x', de, st, nm, hd), D)) n) : zx_Ok E my_In_takeToAll mi_In_takeToAll [.ref (fa b f (7 + 3 * p)), .long d] (zs b (B, foc F f (ad, bz, nt, o, la, ou, foc xs p x, de, st, nm, hd), D)) n Q := by
  obtain ⟨ids, con, snd, cnt, ovf, now⟩ := B
  obtain ⟨⟨pk, so, gr, si, ta⟩, op, he, ex, lt, ak, du⟩ := x
  have hex : ex < 100000 := hex
  refine zx_start [some (.ref (fa b f (7 + 3 * p))), some (.long d), none, none] (by decide) rfl rfl (Nat.le_of_ble_eq_true rfl) rfl ?_
  refine zx_lload_n (q := 1) dd_In_takeToAll_0 rfl rfl ?_
  refine zx_iconst (nI 1) (q := 2) dd_In_takeToAll_1 rfl (by decide) ?_
  refine zx_cN2i (q := 5) dd_In_takeToAll_2 rfl cs_In_takeToAll_75 ⟨rfl, rfl⟩ (Nat.le_of_ble_eq_true rfl) ⟨Nat.zero_le _, Nat.zero_le _⟩ (ok_Ab_frameByte ⟨_, rfl, ?_⟩)
  refine zx_istore_3 (q := 6) dd_In_takeToAll_5 rfl (by decide) rfl ?_
  refine zx_iload_n (q := 7) dd_In_takeToAll_6 rfl rfl ?_
  refine zx_aload_n (q := 8) dd_In_takeToAll_7 rfl rfl ?_
  refine zx_get (q := 11) dd_In_takeToAll_8 rfl fl_In_49 (at_i7 hf hp) rfl ?_
  refine zx_icmp_eq 28 (q := 14) dd_In_takeToAll_11 rfl (by decide) (fun hc1 => ?_) (fun hc1 => ?_)
  · skip
    refine zx_aload_n (q := 29) dd_In_takeToAll_28 rfl rfl ?_
    refine zx_lload_n (q := 30) dd_In_takeToAll_29 rfl rfl ?_
    refine zx_cV1v (q := 33) dd_In_takeToAll_30 rfl cv_In_takeToAll_79 ⟨rfl, rfl⟩ (at_i7 hf hp) rfl rfl (Nat.le_of_ble_eq_true rfl) ⟨Nat.zero_le _, Nat.zero_le _⟩ (ok_In_keepExpected hf hp hex fun x9 he9 => ⟨rfl, ?_⟩)
    obtain ⟨⟨pk9, so9, gr9, si9, ta9⟩, op9, he9_, ex9, lt9, ak9, du9⟩ := x9
    refine zx_aload_n (q := 34) dd_In_takeToAll_33 rfl rfl ?_
    refine zx_cV0i (q := 37) dd_In_takeToAll_34 rfl cv_In_takeToAll_83 ⟨rfl, rfl⟩ (at_i7 hf hp) rfl rfl (Nat.le_of_ble_eq_true rfl) ⟨Nat.zero_le _, Nat.zero_le _⟩ (ok_In_isWhole hf hp fun r10 he10 => ⟨_, rfl, ?_⟩)
    refine zx_if_eq 46 (q := 40) dd_In_takeToAll_37 rfl (by decide) (fun hc2 => ?_) (fun hc2 => ?_)
    · skip
      replace hc2 := zb_0.mp hc2
      refine zx_aload_n (q := 47) dd_In_takeToAll_46 rfl rfl ?_
      refine zx_aload_n (q := 48) dd_In_takeToAll_47 rfl rfl ?_
      refine zx_get (q := 51) dd_In_takeToAll_48 rfl fl_In_24 (at_i7 hf hp) rfl ?_
      refine zx_get (q := 54) dd_In_takeToAll_51 rfl fl_In_55 at_b1 rfl ?_
      refine zx_ldc2 _ (q := 57) dd_In_takeToAll_54 rfl kk_In_60 ?_
      refine zx_ladd (q := 58) dd_In_takeToAll_57 rfl ?_
      refine zx_put (q := 61) dd_In_takeToAll_58 rfl fl_In_20 (at_i7 hf hp) rfl rfl (Nat.le_of_ble_eq_true rfl) (up_i7 hf hp) ?_
      refine zx_iconst (nI 0) (q := 62) dd_In_takeToAll_61 rfl (by decide) ?_
      exact zx_zret dd_In_takeToAll_62 rfl (by decide) (by rw [zb_f]; exact hq _ _ (by first | (simp [pc_takeAll, pc_setDue, eq_true hc1, he9, he10, hc2]; done) | (clear hq; simp_all [pc_takeAll, pc_setDue]; done)))
    · skip
      replace hc2 := zb_n0.mp hc2
      refine zx_aload_n (q := 41) dd_In_takeToAll_40 rfl rfl ?_
      refine zx_cV0v (q := 44) dd_In_takeToAll_41 rfl cv_In_takeToAll_65 ⟨rfl, rfl⟩ (at_i7 hf hp) rfl rfl (Nat.le_of_ble_eq_true rfl) ⟨Nat.zero_le _, Nat.zero_le _⟩ (ok_In_end hf hp ⟨rfl, ?_⟩)
      refine zx_iconst (nI 1) (q := 45) dd_In_takeToAll_44 rfl (by decide) ?_
      exact zx_zret dd_In_takeToAll_45 rfl (by decide) (by rw [zb_1]; exact hq _ _ (by first | (simp [pc_takeAll, pc_setDue, eq_true hc1, he9, he10, hc2]; done) | (clear hq; simp_all [pc_takeAll, pc_setDue]; done)))
  · skip
    refine zx_iload_n (q := 15) dd_In_takeToAll_14 rfl rfl ?_
    refine zx_aload_n (q := 16) dd_In_takeToAll_15 rfl rfl ?_
    refine zx_get (q := 19) dd_In_takeToAll_16 rfl fl_In_49 (at_i7 hf hp) rfl ?_
    refine zx_icmp_le 26 (q := 22) dd_In_takeToAll_19 rfl (by decide) (fun hc3 => ?_) (fun hc3 => ?_)
    · skip
      refine zx_iconst (nI 0) (q := 27) dd_In_takeToAll_26 rfl (by decide) ?_
      exact zx_zret dd_In_takeToAll_27 rfl (by decide) (by rw [zb_f]; exact hq _ _ (by first | (simp [pc_takeAll, pc_setDue, hc1, hc3]; done) | (clear hq; simp_all [pc_takeAll, pc_setDue]; done)))
    · skip
      refine zx_aload_n (q := 23) dd_In_takeToAll_22 rfl rfl ?_
      refine zx_cV0v (q := 26) dd_In_takeToAll_23 rfl cv_In_takeToAll_65 ⟨rfl, rfl⟩ (at_i7 hf hp) rfl rfl (Nat.le_of_ble_eq_true rfl) ⟨Nat.zero_le _, Nat.zero_le _⟩ (ok_In_end hf hp ⟨rfl, ?_⟩)
      refine zx_iconst (nI 0) (q := 27) dd_In_takeToAll_26 rfl (by decide) ?_
      exact zx_zret dd_In_takeToAll_27 rfl (by decide) (by rw [zb_f]; exact hq _ _ (by first | (simp [pc_takeAll, pc_setDue, hc1, hc3]; done) | (clear hq; simp_all [pc_takeAll, pc_setDue]; done)))
set_option maxRecDepth 100000 in
set_option maxHeartbeats 4000000 in
theorem ok_In_takeDirected {E : zxE} {b f n : Nat} {F : Nat → zFn} {D : zMd} {B : zB} {ad : Int32} {bz : Bool} {nt : Nat → Int32} {o : Nat} {la : zMs} {ou : zOu} {p : Nat} {x : zIn} {xs : Nat → zIn} {de st : Int32} {nm hd : Int64} {Q : Option Value → zxH → Nat → Prop} {d : Int64} (hf : f < 5) (hp : p < 2) (hw : B.2.2.2.1 ≤ 48) (hex : x.2.2.2.1 < 100000) (hq : ∀ r B' x', pc_takeDir B (nI f) ad bz x d = (r, B', x') → B'.2.2.2.1 ≤ 48 → Q (some (.int (zb r))) (zs b (B', foc F f (ad, bz, nt, o, la, ou, foc xs p x', de, st, nm, hd), D)) n) : zx_Ok E my_In_takeDirected mi_In_takeDirected [.ref (fa b f (7 + 3 * p)), .long d] (zs b (B, foc F f (ad, bz, nt, o, la, ou, foc xs p x, de, st, nm, hd), D)) n Q := by
  obtain ⟨ids, con, snd, cnt, ovf, now⟩ := B
  obtain ⟨⟨pk, so, gr, si, ta⟩, op, he, ex, lt, ak, du⟩ := x
  have hex : ex < 100000 := hex
  refine zx_start [some (.ref (fa b f (7 + 3 * p))), some (.long d), none, none] (by decide) rfl rfl (Nat.le_of_ble_eq_true rfl) rfl ?_
  refine zx_lload_n (q := 1) dd_In_takeDirected_0 rfl rfl ?_
  refine zx_iconst (nI 1) (q := 2) dd_In_takeDirected_1 rfl (by decide) ?_
  refine zx_cN2i (q := 5) dd_In_takeDirected_2 rfl cs_In_takeDirected_75 ⟨rfl, rfl⟩ (Nat.le_of_ble_eq_true rfl) ⟨Nat.zero_le _, Nat.zero_le _⟩ (ok_Ab_frameByte ⟨_, rfl, ?_⟩)
  refine zx_istore_3 (q := 6) dd_In_takeDirected_5 rfl (by decide) rfl ?_
  refine zx_iload_n (q := 7) dd_In_takeDirected_6 rfl rfl ?_
  refine zx_aload_n (q := 8) dd_In_takeDirected_7 rfl rfl ?_
  refine zx_get (q := 11) dd_In_takeDirected_8 rfl fl_In_49 (at_i7 hf hp) rfl ?_
  refine zx_icmp_ne 22 (q := 14) dd_In_takeDirected_11 rfl (by decide) (fun hc1 => ?_) (fun hc1 => ?_)
  · skip
    refine zx_iload_n (q := 23) dd_In_takeDirected_22 rfl rfl ?_
    refine zx_aload_n (q := 24) dd_In_takeDirected_23 rfl rfl ?_
    refine zx_get (q := 27) dd_In_takeDirected_24 rfl fl_In_87 (at_i7 hf hp) rfl ?_
    refine zx_icmp_ne 43 (q := 30) dd_In_takeDirected_27 rfl (by decide) (fun hc2 => ?_) (fun hc2 => ?_)
    · skip
      refine zx_iconst (nI 0) (q := 44) dd_In_takeDirected_43 rfl (by decide) ?_
      exact zx_zret dd_In_takeDirected_44 rfl (by decide) (by rw [zb_f]; exact hq _ _ _ (by first | (simp [pc_takeDir, pc_takeDv, pc_setDue, hc1, hc2]; done) | (clear hq; simp_all [pc_takeDir, pc_takeDv, pc_setDue]; done)) hw)
    · skip
      refine zx_iload_n (q := 31) dd_In_takeDirected_30 rfl rfl ?_
      refine zx_aload_n (q := 32) dd_In_takeDirected_31 rfl rfl ?_
      refine zx_get (q := 35) dd_In_takeDirected_32 rfl fl_In_49 (at_i7 hf hp) rfl ?_
      refine zx_icmp_le 43 (q := 38) dd_In_takeDirected_35 rfl (by decide) (fun hc3 => ?_) (fun hc3 => ?_)
      · skip
        refine zx_iconst (nI 0) (q := 44) dd_In_takeDirected_43 rfl (by decide) ?_
        exact zx_zret dd_In_takeDirected_44 rfl (by decide) (by rw [zb_f]; exact hq _ _ _ (by first | (simp [pc_takeDir, pc_takeDv, pc_setDue, hc1, eq_true hc2, hc3]; done) | (clear hq; simp_all [pc_takeDir, pc_takeDv, pc_setDue]; done)) hw)
      · skip
        refine zx_aload_n (q := 39) dd_In_takeDirected_38 rfl rfl ?_
        refine zx_iconst (nI 5) (q := 40) dd_In_takeDirected_39 rfl (by decide) ?_
        refine zx_cV1v (q := 43) dd_In_takeDirected_40 rfl cv_In_takeDirected_71 ⟨rfl, rfl⟩ (at_i7 hf hp) rfl rfl (Nat.le_of_ble_eq_true rfl) ⟨Nat.zero_le _, Nat.zero_le _⟩ (ok_In_askAgain hf hp hw fun B11 x11 he11 hw11 => ⟨rfl, ?_⟩)
        obtain ⟨ids11, con11, snd11, cnt11, ovf11, now11⟩ := B11
        obtain ⟨⟨pk11, so11, gr11, si11, ta11⟩, op11, he11_, ex11, lt11, ak11, du11⟩ := x11
        refine zx_iconst (nI 0) (q := 44) dd_In_takeDirected_43 rfl (by decide) ?_
        exact zx_zret dd_In_takeDirected_44 rfl (by decide) (by rw [zb_f]; exact hq _ _ _ (by first | (simp [pc_takeDir, pc_takeDv, pc_setDue, hc1, eq_true hc2, hc3, he11]; done) | (clear hq; simp_all [pc_takeDir, pc_takeDv, pc_setDue]; done)) hw11)
  · skip
    refine zx_iload_n (q := 15) dd_In_takeDirected_14 rfl rfl ?_
    refine zx_aload_n (q := 16) dd_In_takeDirected_15 rfl rfl ?_
    refine zx_get (q := 19) dd_In_takeDirected_16 rfl fl_In_87 (at_i7 hf hp) rfl ?_
    refine zx_icmp_le 45 (q := 22) dd_In_takeDirected_19 rfl (by decide) (fun hc4 => ?_) (fun hc4 => ?_)
    · skip
      refine zx_aload_n (q := 46) dd_In_takeDirected_45 rfl rfl ?_
      refine zx_lload_n (q := 47) dd_In_takeDirected_46 rfl rfl ?_
      refine zx_cV1v (q := 50) dd_In_takeDirected_47 rfl cv_In_takeDirected_79 ⟨rfl, rfl⟩ (at_i7 hf hp) rfl rfl (Nat.le_of_ble_eq_true rfl) ⟨Nat.zero_le _, Nat.zero_le _⟩ (ok_In_keepExpected hf hp hex fun x12 he12 => ⟨rfl, ?_⟩)
      obtain ⟨⟨pk12, so12, gr12, si12, ta12⟩, op12, he12_, ex12, lt12, ak12, du12⟩ := x12
      refine zx_aload_n (q := 51) dd_In_takeDirected_50 rfl rfl ?_
      refine zx_cV0i (q := 54) dd_In_takeDirected_51 rfl cv_In_takeDirected_83 ⟨rfl, rfl⟩ (at_i7 hf hp) rfl rfl (Nat.le_of_ble_eq_true rfl) ⟨Nat.zero_le _, Nat.zero_le _⟩ (ok_In_isWhole hf hp fun r13 he13 => ⟨_, rfl, ?_⟩)
      refine zx_if_eq 102 (q := 57) dd_In_takeDirected_54 rfl (by decide) (fun hc5 => ?_) (fun hc5 => ?_)
      · skip
        replace hc5 := zb_0.mp hc5
        refine zx_aload_n (q := 103) dd_In_takeDirected_102 rfl rfl ?_
        refine zx_get (q := 106) dd_In_takeDirected_103 rfl fl_In_49 (at_i7 hf hp) rfl ?_
        refine zx_aload_n (q := 107) dd_In_takeDirected_106 rfl rfl ?_
        refine zx_get (q := 110) dd_In_takeDirected_107 rfl fl_In_87 (at_i7 hf hp) rfl ?_
        refine zx_icmp_le 120 (q := 113) dd_In_takeDirected_110 rfl (by decide) (fun hc6 => ?_) (fun hc6 => ?_)
        · skip
          refine zx_aload_n (q := 121) dd_In_takeDirected_120 rfl rfl ?_
          refine zx_aload_n (q := 122) dd_In_takeDirected_121 rfl rfl ?_
          refine zx_get (q := 125) dd_In_takeDirected_122 rfl fl_In_24 (at_i7 hf hp) rfl ?_
          refine zx_get (q := 128) dd_In_takeDirected_125 rfl fl_In_55 at_b1 rfl ?_
          refine zx_ldc2 _ (q := 131) dd_In_takeDirected_128 rfl kk_In_60 ?_
          refine zx_ladd (q := 132) dd_In_takeDirected_131 rfl ?_
          refine zx_put (q := 135) dd_In_takeDirected_132 rfl fl_In_20 (at_i7 hf hp) rfl rfl (Nat.le_of_ble_eq_true rfl) (up_i7 hf hp) ?_
          refine zx_iconst (nI 0) (q := 136) dd_In_takeDirected_135 rfl (by decide) ?_
          exact zx_zret dd_In_takeDirected_136 rfl (by decide) (by rw [zb_f]; exact hq _ _ _ (by first | (simp [pc_takeDir, pc_takeDv, pc_setDue, eq_true hc1, hc4, he12, he13, hc5, hc6]; done) | (clear hq; simp_all [pc_takeDir, pc_takeDv, pc_setDue]; done)) hw)
        · skip
          refine zx_aload_n (q := 114) dd_In_takeDirected_113 rfl rfl ?_
          refine zx_cV0v (q := 117) dd_In_takeDirected_114 rfl cv_In_takeDirected_62 ⟨rfl, rfl⟩ (at_i7 hf hp) rfl rfl (Nat.le_of_ble_eq_true rfl) ⟨Nat.zero_le _, Nat.zero_le _⟩ (ok_In_grant hf hp hw fun B14 x14 he14 hw14 => ⟨rfl, ?_⟩)
          obtain ⟨ids14, con14, snd14, cnt14, ovf14, now14⟩ := B14
          obtain ⟨⟨pk14, so14, gr14, si14, ta14⟩, op14, he14_, ex14, lt14, ak14, du14⟩ := x14
          refine zx_goto 135 dd_In_takeDirected_117 (by decide) ?_
          refine zx_iconst (nI 0) (q := 136) dd_In_takeDirected_135 rfl (by decide) ?_
          exact zx_zret dd_In_takeDirected_136 rfl (by decide) (by rw [zb_f]; exact hq _ _ _ (by first | (simp [pc_takeDir, pc_takeDv, pc_setDue, eq_true hc1, hc4, he12, he13, hc5, hc6, he14]; done) | (clear hq; simp_all [pc_takeDir, pc_takeDv, pc_setDue]; done)) hw14)
      · skip
        replace hc5 := zb_n0.mp hc5
        refine zx_aload_n (q := 58) dd_In_takeDirected_57 rfl rfl ?_
        refine zx_get (q := 61) dd_In_takeDirected_58 rfl fl_In_24 (at_i7 hf hp) rfl ?_
        refine zx_aload_n (q := 62) dd_In_takeDirected_61 rfl rfl ?_
        refine zx_get (q := 65) dd_In_takeDirected_62 rfl fl_In_28 (at_i7 hf hp) rfl ?_
        refine zx_ldc _ (q := 67) dd_In_takeDirected_65 rfl kk_In_90 ?_
        refine zx_aload_n (q := 68) dd_In_takeDirected_67 rfl rfl ?_
        refine zx_get (q := 71) dd_In_takeDirected_68 rfl fl_In_12 (at_i7 hf hp) rfl ?_
        refine zx_get (q := 74) dd_In_takeDirected_71 rfl fl_In_32 (at_i8 hf hp) rfl ?_
        refine zx_bipush (nI 19) (q := 76) dd_In_takeDirected_74 rfl (by decide) ?_
        refine zx_aload_n (q := 77) dd_In_takeDirected_76 rfl rfl ?_
        refine zx_get (q := 80) dd_In_takeDirected_77 rfl fl_In_12 (at_i7 hf hp) rfl ?_
        refine zx_get (q := 83) dd_In_takeDirected_80 rfl fl_In_39 (at_i8 hf hp) rfl ?_
        refine zx_aload_n (q := 84) dd_In_takeDirected_83 rfl rfl ?_
        refine zx_get (q := 87) dd_In_takeDirected_84 rfl fl_In_12 (at_i7 hf hp) rfl ?_
        refine zx_get (q := 90) dd_In_takeDirected_87 rfl fl_In_36 (at_i8 hf hp) rfl ?_
        refine zx_cN3l (q := 93) dd_In_takeDirected_90 rfl cs_In_takeDirected_91 ⟨rfl, rfl⟩ (Nat.le_of_ble_eq_true rfl) ⟨Nat.zero_le _, Nat.zero_le _⟩ (ok_Ab_extentData ⟨_, rfl, ?_⟩)
        refine zx_cV4v (q := 96) dd_In_takeDirected_93 rfl cv_In_takeDirected_95 ⟨rfl, rfl⟩ at_b1 rfl rfl (Nat.le_of_ble_eq_true rfl) ⟨Nat.zero_le _, Nat.zero_le _⟩ (ok_Bu_put hf hw fun B15 he15 hw15 => ⟨rfl, ?_⟩)
        obtain ⟨ids15, con15, snd15, cnt15, ovf15, now15⟩ := B15
        refine zx_aload_n (q := 97) dd_In_takeDirected_96 rfl rfl ?_
        refine zx_cV0v (q := 100) dd_In_takeDirected_97 rfl cv_In_takeDirected_65 ⟨rfl, rfl⟩ (at_i7 hf hp) rfl rfl (Nat.le_of_ble_eq_true rfl) ⟨Nat.zero_le _, Nat.zero_le _⟩ (ok_In_end hf hp ⟨rfl, ?_⟩)
        refine zx_iconst (nI 1) (q := 101) dd_In_takeDirected_100 rfl (by decide) ?_
        exact zx_zret dd_In_takeDirected_101 rfl (by decide) (by rw [zb_1]; exact hq _ _ _ (by first | (simp [pc_takeDir, pc_takeDv, pc_setDue, eq_true hc1, hc4, he12, he13, hc5, he15]; done) | (clear hq; simp_all [pc_takeDir, pc_takeDv, pc_setDue]; done)) hw15)
    · skip
      refine zx_iload_n (q := 23) dd_In_takeDirected_22 rfl rfl ?_
      refine zx_aload_n (q := 24) dd_In_takeDirected_23 rfl rfl ?_
      refine zx_get (q := 27) dd_In_takeDirected_24 rfl fl_In_87 (at_i7 hf hp) rfl ?_
      refine zx_icmp_ne 43 (q := 30) dd_In_takeDirected_27 rfl (by decide) (fun hc7 => ?_) (fun hc7 => ?_)
      · skip
        refine zx_iconst (nI 0) (q := 44) dd_In_takeDirected_43 rfl (by decide) ?_
        exact zx_zret dd_In_takeDirected_44 rfl (by decide) (by rw [zb_f]; exact hq _ _ _ (by first | (simp [pc_takeDir, pc_takeDv, pc_setDue, eq_true hc1, hc4, hc7]; done) | (clear hq; simp_all [pc_takeDir, pc_takeDv, pc_setDue]; done)) hw)
      · skip
        refine zx_iload_n (q := 31) dd_In_takeDirected_30 rfl rfl ?_
        refine zx_aload_n (q := 32) dd_In_takeDirected_31 rfl rfl ?_
        refine zx_get (q := 35) dd_In_takeDirected_32 rfl fl_In_49 (at_i7 hf hp) rfl ?_
        refine zx_icmp_le 43 (q := 38) dd_In_takeDirected_35 rfl (by decide) (fun hc8 => ?_) (fun hc8 => ?_)
        · skip
          refine zx_iconst (nI 0) (q := 44) dd_In_takeDirected_43 rfl (by decide) ?_
          exact zx_zret dd_In_takeDirected_44 rfl (by decide) (by rw [zb_f]; exact hq _ _ _ (by first | (simp [pc_takeDir, pc_takeDv, pc_setDue, eq_true hc1, hc4, eq_true hc7, hc8]; done) | (clear hq; simp_all [pc_takeDir, pc_takeDv, pc_setDue]; done)) hw)
        · skip
          refine zx_aload_n (q := 39) dd_In_takeDirected_38 rfl rfl ?_
          refine zx_iconst (nI 5) (q := 40) dd_In_takeDirected_39 rfl (by decide) ?_
          refine zx_cV1v (q := 43) dd_In_takeDirected_40 rfl cv_In_takeDirected_71 ⟨rfl, rfl⟩ (at_i7 hf hp) rfl rfl (Nat.le_of_ble_eq_true rfl) ⟨Nat.zero_le _, Nat.zero_le _⟩ (ok_In_askAgain hf hp hw fun B16 x16 he16 hw16 => ⟨rfl, ?_⟩)
          obtain ⟨ids16, con16, snd16, cnt16, ovf16, now16⟩ := B16
          obtain ⟨⟨pk16, so16, gr16, si16, ta16⟩, op16, he16_, ex16, lt16, ak16, du16⟩ := x16
          refine zx_iconst (nI 0) (q := 44) dd_In_takeDirected_43 rfl (by decide) ?_
          exact zx_zret dd_In_takeDirected_44 rfl (by decide) (by rw [zb_f]; exact hq _ _ _ (by first | (simp [pc_takeDir, pc_takeDv, pc_setDue, eq_true hc1, hc4, eq_true hc7, hc8, he16]; done) | (clear hq; simp_all [pc_takeDir, pc_takeDv, pc_setDue]; done)) hw16)
