set_option maxRecDepth 100000 in
set_option maxHeartbeats 4000000 in
theorem ok_Md_on {E : zxE} {b n : Nat} {B : zB} {F : Nat → zFn} {D : zMd} {Q : Option Value → zxH → Nat → Prop} {x : Int32} (hq : ∀ r, pm_on D.2.2.2.1 x = r → Q (some (.int (zb r))) (zs b (B, F, D)) n) : zx_Ok E my_Md_on mi_Md_on [.ref (b + 71), .int x] (zs b (B, F, D)) n Q := by
  obtain ⟨t, fr, lo, I, J⟩ := D
  refine zx_start [some (.ref (b + 71)), some (.int x)] (by decide) rfl rfl (Nat.le_of_ble_eq_true rfl) rfl ?_
  refine zx_iload_n (q := 1) dd_Md_on_0 rfl rfl ?_
  refine zx_if_lt 22 (q := 4) dd_Md_on_1 rfl (by decide) (fun hc1 => ?_) (fun hc1 => ?_)
  · skip
    refine zx_iconst (nI 0) (q := 23) dd_Md_on_22 rfl (by decide) ?_
    exact zx_zret dd_Md_on_23 rfl (by decide) (by rw [zb_f]; exact hq _ (by first | (simp [pm_on, hc1]; done) | (clear hq; simp_all [pm_on]; done)))
  · skip
    refine zx_iload_n (q := 5) dd_Md_on_4 rfl rfl ?_
    refine zx_iconst (nI 4) (q := 6) dd_Md_on_5 rfl (by decide) ?_
    refine zx_icmp_gt 22 (q := 9) dd_Md_on_6 rfl (by decide) (fun hc2 => ?_) (fun hc2 => ?_)
    · skip
      refine zx_iconst (nI 0) (q := 23) dd_Md_on_22 rfl (by decide) ?_
      exact zx_zret dd_Md_on_23 rfl (by decide) (by rw [zb_f]; exact hq _ (by first | (simp [pm_on, hc1, hc2]; done) | (clear hq; simp_all [pm_on]; done)))
    · skip
      obtain ⟨f, hf, rfl⟩ := pm_in hc1 hc2
      refine zx_aload_n (q := 10) dd_Md_on_9 rfl rfl ?_
      refine zx_get (q := 13) dd_Md_on_10 rfl fl_Md_7 at_m rfl ?_
      refine zx_iload_n (q := 14) dd_Md_on_13 rfl rfl ?_
      refine zx_iald (q := 15) dd_Md_on_14 rfl at_m0 rfl (by omega) (by decide) ?_
      refine zx_if_eq 22 (q := 18) dd_Md_on_15 rfl (by decide) (fun hc3 => ?_) (fun hc3 => ?_)
      · skip
        refine zx_iconst (nI 0) (q := 23) dd_Md_on_22 rfl (by decide) ?_
        exact zx_zret dd_Md_on_23 rfl (by decide) (by rw [zb_f]; exact hq _ (by first | (simp [pm_on, hc1, hc2, pa_cl hf, eq_true hc3]; done) | (clear hq; simp_all [pm_on]; done)))
      · skip
        refine zx_iconst (nI 1) (q := 19) dd_Md_on_18 rfl (by decide) ?_
        refine zx_goto 23 dd_Md_on_19 (by decide) ?_
        exact zx_zret dd_Md_on_23 rfl (by decide) (by rw [zb_1]; exact hq _ (by first | (simp [pm_on, hc1, hc2, pa_cl hf, hc3]; done) | (clear hq; simp_all [pm_on]; done)))
set_option maxRecDepth 100000 in
set_option maxHeartbeats 4000000 in
theorem ok_Md_packets {E : zxE} {b n : Nat} {B : zB} {F : Nat → zFn} {D : zMd} {Q : Option Value → zxH → Nat → Prop} {z : Int32} (hq : Q (some (.int (pm_pk z))) (zs b (B, F, D)) n) : zx_Ok E my_Md_packets mi_Md_packets [.int z] (zs b (B, F, D)) n Q := by
  refine zx_start [some (.int z)] (by decide) rfl rfl (Nat.le_of_ble_eq_true rfl) rfl ?_
  refine zx_iload_n (q := 1) dd_Md_packets_0 rfl rfl ?_
  refine zx_bipush (nI 6) (q := 3) dd_Md_packets_1 rfl (by decide) ?_
  refine zx_iadd (q := 4) dd_Md_packets_3 rfl ?_
  refine zx_bipush (nI 7) (q := 6) dd_Md_packets_4 rfl (by decide) ?_
  refine zx_idiv (q := 7) dd_Md_packets_6 rfl (by decide) ?_
  exact zx_iret dd_Md_packets_7 rfl hq
set_option maxRecDepth 100000 in
set_option maxHeartbeats 4000000 in
theorem ok_Md_source {E : zxE} {b n : Nat} {B : zB} {F : Nat → zFn} {D : zMd} {Q : Option Value → zxH → Nat → Prop} {f : Nat} (hf : f < 5) (hq : ∀ r, pm_src D.2.2.2.1 f = r → Q (some (.int r)) (zs b (B, F, D)) n) : zx_Ok E my_Md_source mi_Md_source [.ref (b + 71), .int (nI f)] (zs b (B, F, D)) n Q := by
  obtain ⟨t, fr, lo, I, J⟩ := D
  refine zx_start [some (.ref (b + 71)), some (.int (nI f))] (by decide) rfl rfl (Nat.le_of_ble_eq_true rfl) rfl ?_
  refine zx_aload_n (q := 1) dd_Md_source_0 rfl rfl ?_
  refine zx_get (q := 4) dd_Md_source_1 rfl fl_Md_7 at_m rfl ?_
  refine zx_iload_n (q := 5) dd_Md_source_4 rfl rfl ?_
  refine zx_iald (q := 6) dd_Md_source_5 rfl at_m0 rfl (by omega) (by decide) ?_
  refine zx_iconst (nI 3) (q := 7) dd_Md_source_6 rfl (by decide) ?_
  refine zx_icmp_ne 16 (q := 10) dd_Md_source_7 rfl (by decide) (fun hc1 => ?_) (fun hc1 => ?_)
  · skip
    refine zx_aload_n (q := 17) dd_Md_source_16 rfl rfl ?_
    refine zx_get (q := 20) dd_Md_source_17 rfl fl_Md_13 at_m rfl ?_
    refine zx_iload_n (q := 21) dd_Md_source_20 rfl rfl ?_
    refine zx_iald (q := 22) dd_Md_source_21 rfl at_m1 rfl (by omega) (by decide) ?_
    exact zx_iret dd_Md_source_22 rfl (hq _ (by first | (simp [pm_src, hc1]; done) | (clear hq; simp_all [pm_src]; done)))
  · skip
    refine zx_sipush (nI 254) (q := 13) dd_Md_source_10 rfl (by decide) ?_
    refine zx_goto 22 dd_Md_source_13 (by decide) ?_
    exact zx_iret dd_Md_source_22 rfl (hq _ (by first | (simp [pm_src, eq_true hc1]; done) | (clear hq; simp_all [pm_src]; done)))
set_option maxRecDepth 100000 in
set_option maxHeartbeats 4000000 in
theorem ok_Md_put {E : zxE} {b n : Nat} {B : zB} {F : Nat → zFn} {D : zMd} {Q : Option Value → zxH → Nat → Prop} {f : Nat} {pr fm tg : Int32} {d : Int64} (hf : f < 5) (hw : D.2.1 ≤ 48) (hq : ∀ D', pm_put D f pr fm tg d = D' → D'.2.1 ≤ 48 → Q none (zs b (B, F, D')) n) : zx_Ok E my_Md_put mi_Md_put [.ref (b + 71), .int (nI f), .int pr, .int fm, .int tg, .long d] (zs b (B, F, D)) n Q := by
  obtain ⟨t, fr, lo, I, J⟩ := D
  have hfr : fr ≤ 48 := hw
  refine zx_start [some (.ref (b + 71)), some (.int (nI f)), some (.int pr), some (.int fm), some (.int tg), some (.long d), none] (by decide) rfl rfl (Nat.le_of_ble_eq_true rfl) rfl ?_
  refine zx_aload_n (q := 1) dd_Md_put_0 rfl rfl ?_
  refine zx_get (q := 4) dd_Md_put_1 rfl fl_Md_105 at_m rfl ?_
  refine zx_bipush (nI 48) (q := 6) dd_Md_put_4 rfl (by decide) ?_
  refine zx_icmp_ne 20 (q := 9) dd_Md_put_6 rfl (by decide) (fun hc1 => ?_) (fun hc1 => ?_)
  · skip
    replace hc1 : ¬ fr = 48 := fun z => hc1 (by rw [z])
    refine zx_aload_n (q := 21) dd_Md_put_20 rfl rfl ?_
    refine zx_get (q := 24) dd_Md_put_21 rfl fl_Md_30 at_m rfl ?_
    refine zx_aload_n (q := 25) dd_Md_put_24 rfl rfl ?_
    refine zx_get (q := 28) dd_Md_put_25 rfl fl_Md_105 at_m rfl ?_
    refine zx_iload_n (q := 29) dd_Md_put_28 rfl rfl ?_
    refine zx_bipush (nI 26) (q := 31) dd_Md_put_29 rfl (by decide) ?_
    refine zx_ishl (q := 32) dd_Md_put_31 rfl ?_
    refine zx_iload_n (q := 33) dd_Md_put_32 rfl rfl ?_
    refine zx_bipush (nI 16) (q := 35) dd_Md_put_33 rfl (by decide) ?_
    refine zx_ishl (q := 36) dd_Md_put_35 rfl ?_
    refine zx_ior (q := 37) dd_Md_put_36 rfl ?_
    refine zx_iload (q := 39) dd_Md_put_37 rfl rfl ?_
    refine zx_bipush (nI 8) (q := 41) dd_Md_put_39 rfl (by decide) ?_
    refine zx_ishl (q := 42) dd_Md_put_41 rfl ?_
    refine zx_ior (q := 43) dd_Md_put_42 rfl ?_
    refine zx_aload_n (q := 44) dd_Md_put_43 rfl rfl ?_
    refine zx_iload_n (q := 45) dd_Md_put_44 rfl rfl ?_
    refine zx_cV1i (q := 48) dd_Md_put_45 rfl cv_Md_put_112 ⟨rfl, rfl⟩ at_m rfl rfl (Nat.le_of_ble_eq_true rfl) ⟨Nat.zero_le _, Nat.zero_le _⟩ (ok_Md_source hf fun r1 he1 => ⟨_, rfl, ?_⟩)
    refine zx_ior (q := 49) dd_Md_put_48 rfl ?_
    refine zx_iast (q := 50) dd_Md_put_49 rfl at_m6 rfl (by omega) (by decide) up_m6 ?_
    refine zx_aload_n (q := 51) dd_Md_put_50 rfl rfl ?_
    refine zx_get (q := 54) dd_Md_put_51 rfl fl_Md_33 at_m rfl ?_
    refine zx_aload_n (q := 55) dd_Md_put_54 rfl rfl ?_
    refine zx_get (q := 58) dd_Md_put_55 rfl fl_Md_105 at_m rfl ?_
    refine zx_lload (q := 60) dd_Md_put_58 rfl rfl ?_
    refine zx_last (q := 61) dd_Md_put_60 rfl at_m7 rfl (by omega) (by decide) up_m7 ?_
    refine zx_aload_n (q := 62) dd_Md_put_61 rfl rfl ?_
    refine zx_get (q := 65) dd_Md_put_62 rfl fl_Md_36 at_m rfl ?_
    refine zx_aload_n (q := 66) dd_Md_put_65 rfl rfl ?_
    refine zx_get (q := 69) dd_Md_put_66 rfl fl_Md_105 at_m rfl ?_
    refine zx_iload_n (q := 70) dd_Md_put_69 rfl rfl ?_
    refine zx_iast (q := 71) dd_Md_put_70 rfl at_m8 rfl (by omega) (by decide) up_m8 ?_
    refine zx_aload_n (q := 72) dd_Md_put_71 rfl rfl ?_
    refine zx_dup (q := 73) dd_Md_put_72 rfl rfl ?_
    refine zx_get (q := 76) dd_Md_put_73 rfl fl_Md_105 at_m rfl ?_
    refine zx_iconst (nI 1) (q := 77) dd_Md_put_76 rfl (by decide) ?_
    refine zx_iadd (q := 78) dd_Md_put_77 rfl ?_
    refine zx_topi (nI_add _ _) ?_
    refine zx_put (q := 81) dd_Md_put_78 rfl fl_Md_105 at_m rfl rfl (Nat.le_of_ble_eq_true rfl) up_m ?_
    exact zx_vret dd_Md_put_81 rfl (hq _ (by simp [pm_put, pm_id, hc1, he1]) (by simp only; omega))
  · skip
    replace hc1 : fr = 48 := (nI_eq (by omega) (by decide)).mp hc1
    refine zx_aload_n (q := 10) dd_Md_put_9 rfl rfl ?_
    refine zx_dup (q := 11) dd_Md_put_10 rfl rfl ?_
    refine zx_get (q := 14) dd_Md_put_11 rfl fl_Md_109 at_m rfl ?_
    refine zx_iconst (nI 1) (q := 15) dd_Md_put_14 rfl (by decide) ?_
    refine zx_iadd (q := 16) dd_Md_put_15 rfl ?_
    refine zx_put (q := 19) dd_Md_put_16 rfl fl_Md_109 at_m rfl rfl (Nat.le_of_ble_eq_true rfl) up_m ?_
    exact zx_vret dd_Md_put_19 rfl (hq _ (by simp [pm_put, pm_id, hc1]) (by simp only; omega))
set_option maxRecDepth 100000 in
set_option maxHeartbeats 4000000 in
theorem ok_Md_putClaim {E : zxE} {b n : Nat} {B : zB} {F : Nat → zFn} {D : zMd} {Q : Option Value → zxH → Nat → Prop} {f : Nat} (hf : f < 5) (hw : D.2.1 ≤ 48) (hq : ∀ D', pm_putCl D f = D' → D'.2.1 ≤ 48 → Q none (zs b (B, F, D')) n) : zx_Ok E my_Md_putClaim mi_Md_putClaim [.ref (b + 71), .int (nI f)] (zs b (B, F, D)) n Q := by
  obtain ⟨t, fr, lo, I, J⟩ := D
  refine zx_start [some (.ref (b + 71)), some (.int (nI f))] (by decide) rfl rfl (Nat.le_of_ble_eq_true rfl) rfl ?_
  refine zx_aload_n (q := 1) dd_Md_putClaim_0 rfl rfl ?_
  refine zx_iload_n (q := 2) dd_Md_putClaim_1 rfl rfl ?_
  refine zx_bipush (nI 6) (q := 4) dd_Md_putClaim_2 rfl (by decide) ?_
  refine zx_sipush (nI 238) (q := 7) dd_Md_putClaim_4 rfl (by decide) ?_
  refine zx_sipush (nI 255) (q := 10) dd_Md_putClaim_7 rfl (by decide) ?_
  refine zx_aload_n (q := 11) dd_Md_putClaim_10 rfl rfl ?_
  refine zx_get (q := 14) dd_Md_putClaim_11 rfl fl_Md_16 at_m rfl ?_
  refine zx_iload_n (q := 15) dd_Md_putClaim_14 rfl rfl ?_
  refine zx_lald (q := 16) dd_Md_putClaim_15 rfl at_m2 rfl (by omega) (by decide) ?_
  refine zx_cV5v (q := 19) dd_Md_putClaim_16 rfl cv_Md_putClaim_116 ⟨rfl, rfl⟩ at_m rfl rfl (Nat.le_of_ble_eq_true rfl) ⟨Nat.zero_le _, Nat.zero_le _⟩ (ok_Md_put hf hw fun D2 he2 hw2 => ⟨rfl, ?_⟩)
  obtain ⟨t2, fr2, lo2, I2, J2⟩ := D2
  exact zx_vret dd_Md_putClaim_19 rfl (hq _ (by first | (simp [pm_putCl, he2]; done) | (clear hq; simp_all [pm_putCl]; done)) hw2)
set_option maxRecDepth 100000 in
set_option maxHeartbeats 4000000 in
theorem ok_Md_putControl {E : zxE} {b n : Nat} {B : zB} {F : Nat → zFn} {D : zMd} {Q : Option Value → zxH → Nat → Prop} {f : Nat} {tg ki x2 x3 x4 gr : Int32} (hf : f < 5) (hw : D.2.1 ≤ 48) (hq : ∀ D', pm_putC D f tg ki x2 x3 x4 gr = D' → D'.2.1 ≤ 48 → Q none (zs b (B, F, D')) n) : zx_Ok E my_Md_putControl mi_Md_putControl [.ref (b + 71), .int (nI f), .int tg, .int ki, .int x2, .int x3, .int x4, .int gr] (zs b (B, F, D)) n Q := by
  obtain ⟨t, fr, lo, I, J⟩ := D
  refine zx_start [some (.ref (b + 71)), some (.int (nI f)), some (.int tg), some (.int ki), some (.int x2), some (.int x3), some (.int x4), some (.int gr)] (by decide) rfl rfl (Nat.le_of_ble_eq_true rfl) rfl ?_
  refine zx_aload_n (q := 1) dd_Md_putControl_0 rfl rfl ?_
  refine zx_iload_n (q := 2) dd_Md_putControl_1 rfl rfl ?_
  refine zx_bipush (nI 7) (q := 4) dd_Md_putControl_2 rfl (by decide) ?_
  refine zx_sipush (nI 236) (q := 7) dd_Md_putControl_4 rfl (by decide) ?_
  refine zx_iload_n (q := 8) dd_Md_putControl_7 rfl rfl ?_
  refine zx_iload_n (q := 9) dd_Md_putControl_8 rfl rfl ?_
  refine zx_i2l (q := 10) dd_Md_putControl_9 rfl ?_
  refine zx_iload (q := 12) dd_Md_putControl_10 rfl rfl ?_
  refine zx_i2l (q := 13) dd_Md_putControl_12 rfl ?_
  refine zx_bipush (nI 8) (q := 15) dd_Md_putControl_13 rfl (by decide) ?_
  refine zx_lshl (q := 16) dd_Md_putControl_15 rfl ?_
  refine zx_lor (q := 17) dd_Md_putControl_16 rfl ?_
  refine zx_iload (q := 19) dd_Md_putControl_17 rfl rfl ?_
  refine zx_i2l (q := 20) dd_Md_putControl_19 rfl ?_
  refine zx_bipush (nI 16) (q := 22) dd_Md_putControl_20 rfl (by decide) ?_
  refine zx_lshl (q := 23) dd_Md_putControl_22 rfl ?_
  refine zx_lor (q := 24) dd_Md_putControl_23 rfl ?_
  refine zx_iload (q := 26) dd_Md_putControl_24 rfl rfl ?_
  refine zx_i2l (q := 27) dd_Md_putControl_26 rfl ?_
  refine zx_bipush (nI 24) (q := 29) dd_Md_putControl_27 rfl (by decide) ?_
  refine zx_lshl (q := 30) dd_Md_putControl_29 rfl ?_
  refine zx_lor (q := 31) dd_Md_putControl_30 rfl ?_
  refine zx_ldc2 _ (q := 34) dd_Md_putControl_31 rfl kk_Md_120 ?_
  refine zx_lor (q := 35) dd_Md_putControl_34 rfl ?_
  refine zx_iload (q := 37) dd_Md_putControl_35 rfl rfl ?_
  refine zx_i2l (q := 38) dd_Md_putControl_37 rfl ?_
  refine zx_bipush (nI 40) (q := 40) dd_Md_putControl_38 rfl (by decide) ?_
  refine zx_lshl (q := 41) dd_Md_putControl_40 rfl ?_
  refine zx_lor (q := 42) dd_Md_putControl_41 rfl ?_
  refine zx_cV5v (q := 45) dd_Md_putControl_42 rfl cv_Md_putControl_116 ⟨rfl, rfl⟩ at_m rfl rfl (Nat.le_of_ble_eq_true rfl) ⟨Nat.zero_le _, Nat.zero_le _⟩ (ok_Md_put hf hw fun D3 he3 hw3 => ⟨rfl, ?_⟩)
  obtain ⟨t3, fr3, lo3, I3, J3⟩ := D3
  exact zx_vret dd_Md_putControl_45 rfl (hq _ (by first | (simp [pm_putC, pm_ctl, he3]; done) | (clear hq; simp_all [pm_putC, pm_ctl]; done)) hw3)
set_option maxRecDepth 100000 in
set_option maxHeartbeats 4000000 in
theorem ok_Md_putAbort {E : zxE} {b n : Nat} {B : zB} {F : Nat → zFn} {D : zMd} {Q : Option Value → zxH → Nat → Prop} {f : Nat} {tg re gr : Int32} (hf : f < 5) (hw : D.2.1 ≤ 48) (hq : ∀ D', pm_putA D f tg re gr = D' → D'.2.1 ≤ 48 → Q none (zs b (B, F, D')) n) : zx_Ok E my_Md_putAbort mi_Md_putAbort [.ref (b + 71), .int (nI f), .int tg, .int re, .int gr] (zs b (B, F, D)) n Q := by
  obtain ⟨t, fr, lo, I, J⟩ := D
  refine zx_start [some (.ref (b + 71)), some (.int (nI f)), some (.int tg), some (.int re), some (.int gr)] (by decide) rfl rfl (Nat.le_of_ble_eq_true rfl) rfl ?_
  refine zx_aload_n (q := 1) dd_Md_putAbort_0 rfl rfl ?_
  refine zx_iload_n (q := 2) dd_Md_putAbort_1 rfl rfl ?_
  refine zx_iload_n (q := 3) dd_Md_putAbort_2 rfl rfl ?_
  refine zx_sipush (nI 255) (q := 6) dd_Md_putAbort_3 rfl (by decide) ?_
  refine zx_iload_n (q := 7) dd_Md_putAbort_6 rfl rfl ?_
  refine zx_sipush (nI 255) (q := 10) dd_Md_putAbort_7 rfl (by decide) ?_
  refine zx_sipush (nI 255) (q := 13) dd_Md_putAbort_10 rfl (by decide) ?_
  refine zx_iload (q := 15) dd_Md_putAbort_13 rfl rfl ?_
  refine zx_cV7v (q := 18) dd_Md_putAbort_15 rfl cv_Md_putAbort_122 ⟨rfl, rfl⟩ at_m rfl rfl (Nat.le_of_ble_eq_true rfl) ⟨Nat.zero_le _, Nat.zero_le _⟩ (ok_Md_putControl hf hw fun D4 he4 hw4 => ⟨rfl, ?_⟩)
  obtain ⟨t4, fr4, lo4, I4, J4⟩ := D4
  exact zx_vret dd_Md_putAbort_18 rfl (hq _ (by first | (simp [pm_putA, he4]; done) | (clear hq; simp_all [pm_putA]; done)) hw4)
set_option maxRecDepth 100000 in
set_option maxHeartbeats 4000000 in
theorem lo_Md_putPacket {E : zxE} {b n f : Nat} {B : zB} {F : Nat → zFn} {Q : Option Value → zxH → Nat → Prop} {t lo k : Int32} {fr : Nat} {I : Nat → Nat → Int32} {J : Nat → Nat → Int64} (hf : f < 5) (hw : fr ≤ 48) (hq : ∀ D', pm_putP (t, fr, lo, I, J) f k = D' → D'.2.1 ≤ 48 → Q none (zs b (B, F, D')) n) : ∀ j m : Nat, m + j = 7 → zx_X E mi_Md_putPacket (zx_Y E mi_Md_putPacket Q) 6 [some (.ref (b + 71)), some (.int (nI f)), some (.int k), some (.long (pm_acc (I 13 f) (J 14 f) k m)), none, some (.int (nI m)), none, none, none] [] (zs b (B, F, (t, fr, lo, I, J))) n 0 0 := by
  intro j
  induction j with
  | zero =>
    intro m h2
    have h3 : m = 7 := by omega
    subst h3
    refine zx_iload (q := 8) dd_Md_putPacket_6 rfl rfl ?_
    refine zx_bipush (nI 7) (q := 10) dd_Md_putPacket_8 rfl (by decide) ?_
    refine zx_icmp_ge 87 (q := 13) dd_Md_putPacket_10 rfl (by decide) (fun hc1 => ?_) (fun hc1 => absurd (by decide) hc1)
    refine zx_aload_n (q := 88) dd_Md_putPacket_87 rfl rfl ?_
    refine zx_iload_n (q := 89) dd_Md_putPacket_88 rfl rfl ?_
    refine zx_bipush (nI 7) (q := 91) dd_Md_putPacket_89 rfl (by decide) ?_
    refine zx_sipush (nI 235) (q := 94) dd_Md_putPacket_91 rfl (by decide) ?_
    refine zx_aload_n (q := 95) dd_Md_putPacket_94 rfl rfl ?_
    refine zx_get (q := 98) dd_Md_putPacket_95 rfl fl_Md_45 at_m rfl ?_
    refine zx_iload_n (q := 99) dd_Md_putPacket_98 rfl rfl ?_
    refine zx_iald (q := 100) dd_Md_putPacket_99 rfl at_m11 rfl (by omega) (by decide) ?_
    refine zx_lload_n (q := 101) dd_Md_putPacket_100 rfl rfl ?_
    refine zx_cV5v (q := 104) dd_Md_putPacket_101 rfl cv_Md_putPacket_116 ⟨rfl, rfl⟩ at_m rfl rfl (Nat.le_of_ble_eq_true rfl) ⟨Nat.zero_le _, Nat.zero_le _⟩ (ok_Md_put hf hw fun D5 he5 hw5 => ⟨rfl, ?_⟩)
    obtain ⟨t5, fr5, lo5, I5, J5⟩ := D5
    exact zx_vret dd_Md_putPacket_104 rfl (hq _ he5 hw5)
  | succ j ih =>
    intro m h2
    have ih := ih (m + 1) (by omega)
    refine zx_iload (q := 8) dd_Md_putPacket_6 rfl rfl ?_
    refine zx_bipush (nI 7) (q := 10) dd_Md_putPacket_8 rfl (by decide) ?_
    refine zx_icmp_ge 87 (q := 13) dd_Md_putPacket_10 rfl (by decide) (fun hc1 => absurd hc1 (fun z => absurd ((nI_leI (by decide) (by omega)).mp z) (by omega))) (fun hc1 => ?_)
    refine zx_bipush (nI 7) (q := 15) dd_Md_putPacket_13 rfl (by decide) ?_
    refine zx_iload_n (q := 16) dd_Md_putPacket_15 rfl rfl ?_
    refine zx_imul (q := 17) dd_Md_putPacket_16 rfl ?_
    refine zx_bipush (nI 7) (q := 19) dd_Md_putPacket_17 rfl (by decide) ?_
    refine zx_isub (q := 20) dd_Md_putPacket_19 rfl ?_
    refine zx_iload (q := 22) dd_Md_putPacket_20 rfl rfl ?_
    refine zx_iadd (q := 23) dd_Md_putPacket_22 rfl ?_
    refine zx_istore_6 (q := 25) dd_Md_putPacket_23 rfl (by decide) rfl ?_
    refine zx_iload (q := 27) dd_Md_putPacket_25 rfl rfl ?_
    refine zx_aload_n (q := 28) dd_Md_putPacket_27 rfl rfl ?_
    refine zx_get (q := 31) dd_Md_putPacket_28 rfl fl_Md_51 at_m rfl ?_
    refine zx_iload_n (q := 32) dd_Md_putPacket_31 rfl rfl ?_
    refine zx_iald (q := 33) dd_Md_putPacket_32 rfl at_m13 rfl (by omega) (by decide) ?_
    refine zx_icmp_ge 62 (q := 36) dd_Md_putPacket_33 rfl (by decide) (fun hc2 => ?_) (fun hc2 => ?_)
    · skip
      refine zx_ldc2 _ (q := 65) dd_Md_putPacket_62 rfl kk_Md_126 ?_
      refine zx_lstore_7 (q := 67) dd_Md_putPacket_65 rfl (by decide) rfl ?_
      refine zx_lload_n (q := 68) dd_Md_putPacket_67 rfl rfl ?_
      refine zx_lload (q := 70) dd_Md_putPacket_68 rfl rfl ?_
      refine zx_bipush (nI 8) (q := 72) dd_Md_putPacket_70 rfl (by decide) ?_
      refine zx_iload (q := 74) dd_Md_putPacket_72 rfl rfl ?_
      refine zx_imul (q := 75) dd_Md_putPacket_74 rfl ?_
      refine zx_topi (pk_mul _ _) ?_
      refine zx_bipush (nI 8) (q := 77) dd_Md_putPacket_75 rfl (by decide) ?_
      refine zx_iadd (q := 78) dd_Md_putPacket_77 rfl ?_
      refine zx_topi (nI_add _ _) ?_
      refine zx_lshl (q := 79) dd_Md_putPacket_78 rfl ?_
      refine zx_lor (q := 80) dd_Md_putPacket_79 rfl ?_
      refine zx_lstore_3 (q := 81) dd_Md_putPacket_80 rfl (by decide) rfl ?_
      refine zx_iincN_5 (q := 84) dd_Md_putPacket_81 rfl (by decide) rfl ?_
      refine zx_goto 6 dd_Md_putPacket_84 (by decide) ?_
      refine zx_fg (zx_fgp [_, _, _, _, _, _] _ 3) ?_
      simp only [pm_acc, pc_val, hc2, if_true, if_false, if_pos, if_neg, not_false_eq_true] at ih
      exact ih
    · skip
      refine zx_aload_n (q := 37) dd_Md_putPacket_36 rfl rfl ?_
      refine zx_get (q := 40) dd_Md_putPacket_37 rfl fl_Md_54 at_m rfl ?_
      refine zx_iload_n (q := 41) dd_Md_putPacket_40 rfl rfl ?_
      refine zx_lald (q := 42) dd_Md_putPacket_41 rfl at_m14 rfl (by omega) (by decide) ?_
      refine zx_bipush (nI 8) (q := 44) dd_Md_putPacket_42 rfl (by decide) ?_
      refine zx_iload (q := 46) dd_Md_putPacket_44 rfl rfl ?_
      refine zx_bipush (nI 8) (q := 48) dd_Md_putPacket_46 rfl (by decide) ?_
      refine zx_irem (q := 49) dd_Md_putPacket_48 rfl (by decide) ?_
      refine zx_imul (q := 50) dd_Md_putPacket_49 rfl ?_
      refine zx_lshr (q := 51) dd_Md_putPacket_50 rfl ?_
      refine zx_iload (q := 53) dd_Md_putPacket_51 rfl rfl ?_
      refine zx_i2l (q := 54) dd_Md_putPacket_53 rfl ?_
      refine zx_ladd (q := 55) dd_Md_putPacket_54 rfl ?_
      refine zx_ldc2 _ (q := 58) dd_Md_putPacket_55 rfl kk_Md_126 ?_
      refine zx_land (q := 59) dd_Md_putPacket_58 rfl ?_
      refine zx_goto 65 dd_Md_putPacket_59 (by decide) ?_
      refine zx_lstore_7 (q := 67) dd_Md_putPacket_65 rfl (by decide) rfl ?_
      refine zx_lload_n (q := 68) dd_Md_putPacket_67 rfl rfl ?_
      refine zx_lload (q := 70) dd_Md_putPacket_68 rfl rfl ?_
      refine zx_bipush (nI 8) (q := 72) dd_Md_putPacket_70 rfl (by decide) ?_
      refine zx_iload (q := 74) dd_Md_putPacket_72 rfl rfl ?_
      refine zx_imul (q := 75) dd_Md_putPacket_74 rfl ?_
      refine zx_topi (pk_mul _ _) ?_
      refine zx_bipush (nI 8) (q := 77) dd_Md_putPacket_75 rfl (by decide) ?_
      refine zx_iadd (q := 78) dd_Md_putPacket_77 rfl ?_
      refine zx_topi (nI_add _ _) ?_
      refine zx_lshl (q := 79) dd_Md_putPacket_78 rfl ?_
      refine zx_lor (q := 80) dd_Md_putPacket_79 rfl ?_
      refine zx_lstore_3 (q := 81) dd_Md_putPacket_80 rfl (by decide) rfl ?_
      refine zx_iincN_5 (q := 84) dd_Md_putPacket_81 rfl (by decide) rfl ?_
      refine zx_goto 6 dd_Md_putPacket_84 (by decide) ?_
      refine zx_fg (zx_fgp [_, _, _, _, _, _] _ 3) ?_
      simp only [pm_acc, pc_val, hc2, if_true, if_false, if_pos, if_neg, not_false_eq_true] at ih
      exact ih
set_option maxRecDepth 100000 in
set_option maxHeartbeats 4000000 in
theorem ok_Md_putPacket {E : zxE} {b n : Nat} {B : zB} {F : Nat → zFn} {D : zMd} {Q : Option Value → zxH → Nat → Prop} {f : Nat} {k : Int32} (hf : f < 5) (hw : D.2.1 ≤ 48) (hq : ∀ D', pm_putP D f k = D' → D'.2.1 ≤ 48 → Q none (zs b (B, F, D')) n) : zx_Ok E my_Md_putPacket mi_Md_putPacket [.ref (b + 71), .int (nI f), .int k] (zs b (B, F, D)) n Q := by
  obtain ⟨t, fr, lo, I, J⟩ := D
  refine zx_start [some (.ref (b + 71)), some (.int (nI f)), some (.int k), none, none, none, none, none, none] (by decide) rfl rfl (Nat.le_of_ble_eq_true rfl) rfl ?_
  refine zx_iload_n (q := 1) dd_Md_putPacket_0 rfl rfl ?_
  refine zx_i2l (q := 2) dd_Md_putPacket_1 rfl ?_
  refine zx_lstore_3 (q := 3) dd_Md_putPacket_2 rfl (by decide) rfl ?_
  refine zx_iconst (nI 0) (q := 4) dd_Md_putPacket_3 rfl (by decide) ?_
  refine zx_istore_5 (q := 6) dd_Md_putPacket_4 rfl (by decide) rfl ?_
  exact lo_Md_putPacket hf hw hq 7 0 (by omega)
set_option maxRecDepth 100000 in
set_option maxHeartbeats 4000000 in
theorem lo_Md_takeAway {E : zxE} {b n : Nat} {B : zB} {F : Nat → zFn} {Q : Option Value → zxH → Nat → Prop} {t lo : Int32} {p : Nat} {fr : Nat} {I : Nat → Nat → Int32} {J : Nat → Nat → Int64} (hw : fr ≤ 48) (hp : p < fr) (hq : Q none (zs b (B, F, (pm_take (t, fr, lo, I, J) p))) n) : ∀ k i : Nat, p ≤ i → i + 1 + k = fr → zx_X E mi_Md_takeAway (zx_Y E mi_Md_takeAway Q) 12 [some (.ref (b + 71)), some (.int (nI p)), some (.int (nI i))] [] (zs b (B, F, (t, fr - 1, lo, pm_shI I p i, pm_shJ J p i))) n 0 0 := by
  intro k
  induction k with
  | zero =>
    intro i h1 h2
    have h3 : i = fr - 1 := by omega
    refine zx_iload_n (q := 13) dd_Md_takeAway_12 rfl rfl ?_
    refine zx_aload_n (q := 14) dd_Md_takeAway_13 rfl rfl ?_
    refine zx_get (q := 17) dd_Md_takeAway_14 rfl fl_Md_105 at_m rfl ?_
    refine zx_icmp_ge 68 (q := 20) dd_Md_takeAway_17 rfl (by decide) (fun hc1 => ?_) (fun hc1 => absurd ((nI_leI (by omega) (by omega)).mpr (by omega)) hc1)
    exact zx_vret dd_Md_takeAway_68 rfl (by subst h3; exact hq)
  | succ k ih =>
    intro i h1 h2
    have ih := ih (i + 1) (by omega) (by omega)
    rw [← pm_shI_s h1, ← pm_shJ_s h1] at ih
    refine zx_iload_n (q := 13) dd_Md_takeAway_12 rfl rfl ?_
    refine zx_aload_n (q := 14) dd_Md_takeAway_13 rfl rfl ?_
    refine zx_get (q := 17) dd_Md_takeAway_14 rfl fl_Md_105 at_m rfl ?_
    refine zx_icmp_ge 68 (q := 20) dd_Md_takeAway_17 rfl (by decide) (fun hc1 => absurd hc1 (fun z => absurd ((nI_leI (by omega) (by omega)).mp z) (by omega))) (fun hc1 => ?_)
    refine zx_aload_n (q := 21) dd_Md_takeAway_20 rfl rfl ?_
    refine zx_get (q := 24) dd_Md_takeAway_21 rfl fl_Md_30 at_m rfl ?_
    refine zx_iload_n (q := 25) dd_Md_takeAway_24 rfl rfl ?_
    refine zx_aload_n (q := 26) dd_Md_takeAway_25 rfl rfl ?_
    refine zx_get (q := 29) dd_Md_takeAway_26 rfl fl_Md_30 at_m rfl ?_
    refine zx_iload_n (q := 30) dd_Md_takeAway_29 rfl rfl ?_
    refine zx_iconst (nI 1) (q := 31) dd_Md_takeAway_30 rfl (by decide) ?_
    refine zx_iadd (q := 32) dd_Md_takeAway_31 rfl ?_
    refine zx_topi (nI_add _ _) ?_
    refine zx_iald (q := 33) dd_Md_takeAway_32 rfl at_m6 rfl (by omega) (by decide) ?_
    refine zx_iast (q := 34) dd_Md_takeAway_33 rfl at_m6 rfl (by omega) (by decide) up_m6 ?_
    refine zx_aload_n (q := 35) dd_Md_takeAway_34 rfl rfl ?_
    refine zx_get (q := 38) dd_Md_takeAway_35 rfl fl_Md_33 at_m rfl ?_
    refine zx_iload_n (q := 39) dd_Md_takeAway_38 rfl rfl ?_
    refine zx_aload_n (q := 40) dd_Md_takeAway_39 rfl rfl ?_
    refine zx_get (q := 43) dd_Md_takeAway_40 rfl fl_Md_33 at_m rfl ?_
    refine zx_iload_n (q := 44) dd_Md_takeAway_43 rfl rfl ?_
    refine zx_iconst (nI 1) (q := 45) dd_Md_takeAway_44 rfl (by decide) ?_
    refine zx_iadd (q := 46) dd_Md_takeAway_45 rfl ?_
    refine zx_topi (nI_add _ _) ?_
    refine zx_lald (q := 47) dd_Md_takeAway_46 rfl at_m7 rfl (by omega) (by decide) ?_
    refine zx_last (q := 48) dd_Md_takeAway_47 rfl at_m7 rfl (by omega) (by decide) up_m7 ?_
    refine zx_aload_n (q := 49) dd_Md_takeAway_48 rfl rfl ?_
    refine zx_get (q := 52) dd_Md_takeAway_49 rfl fl_Md_36 at_m rfl ?_
    refine zx_iload_n (q := 53) dd_Md_takeAway_52 rfl rfl ?_
    refine zx_aload_n (q := 54) dd_Md_takeAway_53 rfl rfl ?_
    refine zx_get (q := 57) dd_Md_takeAway_54 rfl fl_Md_36 at_m rfl ?_
    refine zx_iload_n (q := 58) dd_Md_takeAway_57 rfl rfl ?_
    refine zx_iconst (nI 1) (q := 59) dd_Md_takeAway_58 rfl (by decide) ?_
    refine zx_iadd (q := 60) dd_Md_takeAway_59 rfl ?_
    refine zx_topi (nI_add _ _) ?_
    refine zx_iald (q := 61) dd_Md_takeAway_60 rfl at_m8 rfl (by omega) (by decide) ?_
    refine zx_topr (I := (pm_shI I p i)) (fun j => by simp [up2_r]) ?_
    refine zx_iast (q := 62) dd_Md_takeAway_61 rfl at_m8 rfl (by omega) (by decide) up_m8 ?_
    refine zx_iincN_2 (q := 65) dd_Md_takeAway_62 rfl (by decide) rfl ?_
    refine zx_goto 12 dd_Md_takeAway_65 (by decide) ?_
    exact ih
set_option maxRecDepth 100000 in
set_option maxHeartbeats 4000000 in
theorem ok_Md_takeAway {E : zxE} {b n : Nat} {B : zB} {F : Nat → zFn} {D : zMd} {Q : Option Value → zxH → Nat → Prop} {p : Nat} (hw : D.2.1 ≤ 48) (hp : p < D.2.1) (hq : Q none (zs b (B, F, pm_take D p)) n) : zx_Ok E my_Md_takeAway mi_Md_takeAway [.ref (b + 71), .int (nI p)] (zs b (B, F, D)) n Q := by
  obtain ⟨t, fr, lo, I, J⟩ := D
  have hfr : fr ≤ 48 := hw
  have hp : p < fr := hp
  refine zx_start [some (.ref (b + 71)), some (.int (nI p)), none] (by decide) rfl rfl (Nat.le_of_ble_eq_true rfl) rfl ?_
  refine zx_aload_n (q := 1) dd_Md_takeAway_0 rfl rfl ?_
  refine zx_dup (q := 2) dd_Md_takeAway_1 rfl rfl ?_
  refine zx_get (q := 5) dd_Md_takeAway_2 rfl fl_Md_105 at_m rfl ?_
  refine zx_iconst (nI 1) (q := 6) dd_Md_takeAway_5 rfl (by decide) ?_
  refine zx_isub (q := 7) dd_Md_takeAway_6 rfl ?_
  refine zx_topi (pk_sub (by omega)) ?_
  refine zx_put (q := 10) dd_Md_takeAway_7 rfl fl_Md_105 at_m rfl rfl (Nat.le_of_ble_eq_true rfl) up_m ?_
  refine zx_iload_n (q := 11) dd_Md_takeAway_10 rfl rfl ?_
  refine zx_istore_2 (q := 12) dd_Md_takeAway_11 rfl (by decide) rfl ?_
  have hx := lo_Md_takeAway (E := E) (b := b) (n := n) (B := B) (F := F) (Q := Q) hfr hp hq (fr - 1 - p) p (Nat.le_refl _) (by omega)
  rw [pm_shI_0, pm_shJ_0] at hx
  exact hx
set_option maxRecDepth 100000 in
set_option maxHeartbeats 4000000 in
theorem lo_Md_next {E : zxE} {b n : Nat} {B : zB} {F : Nat → zFn} {Q : Option Value → zxH → Nat → Prop} {t lo : Int32} {fr : Nat} {I : Nat → Nat → Int32} {J : Nat → Nat → Int64} (hw : fr ≤ 48) (hq : Q (some (.int (pc_next (I 6) fr))) (zs b (B, F, (t, fr, lo, I, J))) n) : ∀ k i : Nat, i + k = fr → zx_X E mi_Md_next (zx_Y E mi_Md_next Q) 4 [some (.ref (b + 71)), some (.int (pc_next (I 6) i)), some (.int (nI i))] [] (zs b (B, F, (t, fr, lo, I, J))) n 0 0 := by
  intro k
  induction k with
  | zero =>
    intro i h2
    have h3 : i = fr := by omega
    subst h3
    refine zx_iload_n (q := 5) dd_Md_next_4 rfl rfl ?_
    refine zx_aload_n (q := 6) dd_Md_next_5 rfl rfl ?_
    refine zx_get (q := 9) dd_Md_next_6 rfl fl_Md_105 at_m rfl ?_
    refine zx_icmp_ge 39 (q := 12) dd_Md_next_9 rfl (by decide) (fun hc1 => ?_) (fun hc1 => absurd ((nI_leI (by omega) (by omega)).mpr (Nat.le_refl _)) hc1)
    refine zx_iload_n (q := 40) dd_Md_next_39 rfl rfl ?_
    exact zx_iret dd_Md_next_40 rfl hq
  | succ k ih =>
    intro i h2
    have ih := ih (i + 1) (by omega)
    have hi48 : i ≤ 48 := by omega
    refine zx_iload_n (q := 5) dd_Md_next_4 rfl rfl ?_
    refine zx_aload_n (q := 6) dd_Md_next_5 rfl rfl ?_
    refine zx_get (q := 9) dd_Md_next_6 rfl fl_Md_105 at_m rfl ?_
    refine zx_icmp_ge 39 (q := 12) dd_Md_next_9 rfl (by decide) (fun hc1 => absurd hc1 (fun z => absurd ((nI_leI (by omega) (by omega)).mp z) (by omega))) (fun hc1 => ?_)
    refine zx_iload_n (q := 13) dd_Md_next_12 rfl rfl ?_
    refine zx_if_lt 31 (q := 16) dd_Md_next_13 rfl (by decide) (fun hc2 => ?_) (fun hc2 => ?_)
    · skip
      have h0 : i = 0 := Decidable.byContradiction fun z => absurd ((pc_next_ge (ids := I 6) hi48).mpr z) (Int32.not_le.mpr hc2)
      subst h0
      refine zx_iload_n (q := 32) dd_Md_next_31 rfl rfl ?_
      refine zx_istore_1 (q := 33) dd_Md_next_32 rfl (by decide) rfl ?_
      refine zx_iincN_2 (q := 36) dd_Md_next_33 rfl (by decide) rfl ?_
      refine zx_goto 4 dd_Md_next_36 (by decide) ?_
      exact ih
    · skip
      have h0 : i ≠ 0 := (pc_next_ge hi48).mp (Int32.not_lt.mp hc2)
      have hle := pc_least_le (I 6) (i - 1)
      rw [show pc_next (I 6) i = nI (pc_least (I 6) (i - 1)) from if_neg h0]
      have hst : pc_next (I 6) (i + 1) = nI (if I 6 i < I 6 (pc_least (I 6) (i - 1)) then i else pc_least (I 6) (i - 1)) := by
        obtain ⟨j, rfl⟩ : ∃ j, i = j + 1 := ⟨i - 1, by omega⟩
        rfl
      rw [hst] at ih
      refine zx_aload_n (q := 17) dd_Md_next_16 rfl rfl ?_
      refine zx_get (q := 20) dd_Md_next_17 rfl fl_Md_30 at_m rfl ?_
      refine zx_iload_n (q := 21) dd_Md_next_20 rfl rfl ?_
      refine zx_iald (q := 22) dd_Md_next_21 rfl at_m6 rfl (by omega) (by decide) ?_
      refine zx_aload_n (q := 23) dd_Md_next_22 rfl rfl ?_
      refine zx_get (q := 26) dd_Md_next_23 rfl fl_Md_30 at_m rfl ?_
      refine zx_iload_n (q := 27) dd_Md_next_26 rfl rfl ?_
      refine zx_iald (q := 28) dd_Md_next_27 rfl at_m6 rfl (by omega) (by decide) ?_
      refine zx_icmp_ge 33 (q := 31) dd_Md_next_28 rfl (by decide) (fun hc3 => ?_) (fun hc3 => ?_)
      · skip
        rw [if_neg (fun z => Int32.lt_irrefl (Int32.lt_of_lt_of_le z hc3))] at ih
        refine zx_iincN_2 (q := 36) dd_Md_next_33 rfl (by decide) rfl ?_
        refine zx_goto 4 dd_Md_next_36 (by decide) ?_
        exact ih
      · skip
        rw [if_pos (Int32.not_le.mp hc3)] at ih
        refine zx_iload_n (q := 32) dd_Md_next_31 rfl rfl ?_
        refine zx_istore_1 (q := 33) dd_Md_next_32 rfl (by decide) rfl ?_
        refine zx_iincN_2 (q := 36) dd_Md_next_33 rfl (by decide) rfl ?_
        refine zx_goto 4 dd_Md_next_36 (by decide) ?_
        exact ih
set_option maxRecDepth 100000 in
set_option maxHeartbeats 4000000 in
theorem ok_Md_next {E : zxE} {b n : Nat} {B : zB} {F : Nat → zFn} {D : zMd} {Q : Option Value → zxH → Nat → Prop} (hw : D.2.1 ≤ 48) (hq : Q (some (.int (pc_next (D.2.2.2.1 6) D.2.1))) (zs b (B, F, D)) n) : zx_Ok E my_Md_next mi_Md_next [.ref (b + 71)] (zs b (B, F, D)) n Q := by
  obtain ⟨t, fr, lo, I, J⟩ := D
  have hfr : fr ≤ 48 := hw
  refine zx_start [some (.ref (b + 71)), none, none] (by decide) rfl rfl (Nat.le_of_ble_eq_true rfl) rfl ?_
  refine zx_iconst (-1) (q := 1) dd_Md_next_0 rfl (by decide) ?_
  refine zx_istore_1 (q := 2) dd_Md_next_1 rfl (by decide) rfl ?_
  refine zx_iconst (nI 0) (q := 3) dd_Md_next_2 rfl (by decide) ?_
  refine zx_istore_2 (q := 4) dd_Md_next_3 rfl (by decide) rfl ?_
  exact lo_Md_next hfr hq fr 0 (by omega)
set_option maxRecDepth 100000 in
set_option maxHeartbeats 4000000 in
theorem ok_Md_finish {E : zxE} {b n : Nat} {B : zB} {F : Nat → zFn} {D : zMd} {Q : Option Value → zxH → Nat → Prop} {f : Nat} {how : Int32} (hf : f < 5) (hq : Q none (zs b (B, F, pm_fin D f how)) n) : zx_Ok E my_Md_finish mi_Md_finish [.ref (b + 71), .int (nI f), .int how] (zs b (B, F, D)) n Q := by
  obtain ⟨t, fr, lo, I, J⟩ := D
  refine zx_start [some (.ref (b + 71)), some (.int (nI f)), some (.int how)] (by decide) rfl rfl (Nat.le_of_ble_eq_true rfl) rfl ?_
  refine zx_aload_n (q := 1) dd_Md_finish_0 rfl rfl ?_
  refine zx_get (q := 4) dd_Md_finish_1 rfl fl_Md_39 at_m rfl ?_
  refine zx_iload_n (q := 5) dd_Md_finish_4 rfl rfl ?_
  refine zx_iconst (nI 0) (q := 6) dd_Md_finish_5 rfl (by decide) ?_
  refine zx_iast (q := 7) dd_Md_finish_6 rfl at_m9 rfl (by omega) (by decide) up_m9 ?_
  refine zx_aload_n (q := 8) dd_Md_finish_7 rfl rfl ?_
  refine zx_get (q := 11) dd_Md_finish_8 rfl fl_Md_42 at_m rfl ?_
  refine zx_iload_n (q := 12) dd_Md_finish_11 rfl rfl ?_
  refine zx_iload_n (q := 13) dd_Md_finish_12 rfl rfl ?_
  refine zx_iast (q := 14) dd_Md_finish_13 rfl at_m10 rfl (by omega) (by decide) up_m10 ?_
  exact zx_vret dd_Md_finish_14 rfl hq
set_option maxRecDepth 100000 in
set_option maxHeartbeats 4000000 in
theorem ok_Md_below {E : zxE} {b n : Nat} {B : zB} {F : Nat → zFn} {D : zMd} {Q : Option Value → zxH → Nat → Prop} {x y : Int64} (hq : ∀ r, pm_below x y = r → Q (some (.int (zb r))) (zs b (B, F, D)) n) : zx_Ok E my_Md_below mi_Md_below [.long x, .long y] (zs b (B, F, D)) n Q := by
  refine zx_start [some (.long x), none, some (.long y), none] (by decide) rfl rfl (Nat.le_of_ble_eq_true rfl) rfl ?_
  refine zx_lload_n (q := 1) dd_Md_below_0 rfl rfl ?_
  refine zx_lconst (lN 0) (q := 2) dd_Md_below_1 rfl (by decide) ?_
  refine zx_lcmp (q := 3) dd_Md_below_2 rfl ?_
  refine zx_if_ge 10 (q := 6) dd_Md_below_3 rfl (by decide) (fun hc1 => ?_) (fun hc1 => ?_)
  · skip
    replace hc1 := lcmp_ge.mp hc1
    refine zx_iconst (nI 0) (q := 11) dd_Md_below_10 rfl (by decide) ?_
    refine zx_lload_n (q := 12) dd_Md_below_11 rfl rfl ?_
    refine zx_lconst (lN 0) (q := 13) dd_Md_below_12 rfl (by decide) ?_
    refine zx_lcmp (q := 14) dd_Md_below_13 rfl ?_
    refine zx_if_ge 21 (q := 17) dd_Md_below_14 rfl (by decide) (fun hc2 => ?_) (fun hc2 => ?_)
    · skip
      replace hc2 := lcmp_ge.mp hc2
      refine zx_iconst (nI 0) (q := 22) dd_Md_below_21 rfl (by decide) ?_
      refine zx_icmp_ne 39 (q := 25) dd_Md_below_22 rfl (by decide) (fun hc3 => absurd (by decide) hc3) (fun hc3 => ?_)
      refine zx_lload_n (q := 26) dd_Md_below_25 rfl rfl ?_
      refine zx_lload_n (q := 27) dd_Md_below_26 rfl rfl ?_
      refine zx_lcmp (q := 28) dd_Md_below_27 rfl ?_
      refine zx_if_ge 35 (q := 31) dd_Md_below_28 rfl (by decide) (fun hc4 => ?_) (fun hc4 => ?_)
      · skip
        replace hc4 := lcmp_ge.mp hc4
        refine zx_iconst (nI 0) (q := 36) dd_Md_below_35 rfl (by decide) ?_
        refine zx_goto 50 dd_Md_below_36 (by decide) ?_
        exact zx_zret dd_Md_below_50 rfl (by decide) (by rw [zb_f]; exact hq _ (by first | (simp [pm_below, hc1, hc2, hc4]; done) | (clear hq; simp_all [pm_below]; done)))
      · skip
        replace hc4 := lcmp_nge.mp hc4
        refine zx_iconst (nI 1) (q := 32) dd_Md_below_31 rfl (by decide) ?_
        refine zx_goto 50 dd_Md_below_32 (by decide) ?_
        exact zx_zret dd_Md_below_50 rfl (by decide) (by rw [zb_1]; exact hq _ (by first | (simp [pm_below, hc1, hc2, hc4]; done) | (clear hq; simp_all [pm_below]; done)))
    · skip
      replace hc2 := lcmp_nge.mp hc2
      refine zx_iconst (nI 1) (q := 18) dd_Md_below_17 rfl (by decide) ?_
      refine zx_goto 22 dd_Md_below_18 (by decide) ?_
      refine zx_icmp_ne 39 (q := 25) dd_Md_below_22 rfl (by decide) (fun hc5 => ?_) (fun hc5 => absurd hc5 (by decide))
      refine zx_lload_n (q := 40) dd_Md_below_39 rfl rfl ?_
      refine zx_lconst (lN 0) (q := 41) dd_Md_below_40 rfl (by decide) ?_
      refine zx_lcmp (q := 42) dd_Md_below_41 rfl ?_
      refine zx_if_ge 49 (q := 45) dd_Md_below_42 rfl (by decide) (fun hc6 => ?_) (fun hc6 => ?_)
      · skip
        replace hc6 := lcmp_ge.mp hc6
        refine zx_iconst (nI 0) (q := 50) dd_Md_below_49 rfl (by decide) ?_
        exact zx_zret dd_Md_below_50 rfl (by decide) (by rw [zb_f]; exact hq _ (by first | (simp [pm_below, hc1, hc2, hc6]; done) | (clear hq; simp_all [pm_below]; done)))
      · skip
        replace hc6 := lcmp_nge.mp hc6
        refine zx_iconst (nI 1) (q := 46) dd_Md_below_45 rfl (by decide) ?_
        refine zx_goto 50 dd_Md_below_46 (by decide) ?_
        exact zx_zret dd_Md_below_50 rfl (by decide) (by rw [zb_1]; exact hq _ (by first | (simp [pm_below, hc1, hc2, hc6]; done) | (clear hq; simp_all [pm_below]; done)))
  · skip
    replace hc1 := lcmp_nge.mp hc1
    refine zx_iconst (nI 1) (q := 7) dd_Md_below_6 rfl (by decide) ?_
    refine zx_goto 11 dd_Md_below_7 (by decide) ?_
    refine zx_lload_n (q := 12) dd_Md_below_11 rfl rfl ?_
    refine zx_lconst (lN 0) (q := 13) dd_Md_below_12 rfl (by decide) ?_
    refine zx_lcmp (q := 14) dd_Md_below_13 rfl ?_
    refine zx_if_ge 21 (q := 17) dd_Md_below_14 rfl (by decide) (fun hc7 => ?_) (fun hc7 => ?_)
    · skip
      replace hc7 := lcmp_ge.mp hc7
      refine zx_iconst (nI 0) (q := 22) dd_Md_below_21 rfl (by decide) ?_
      refine zx_icmp_ne 39 (q := 25) dd_Md_below_22 rfl (by decide) (fun hc8 => ?_) (fun hc8 => absurd hc8 (by decide))
      refine zx_lload_n (q := 40) dd_Md_below_39 rfl rfl ?_
      refine zx_lconst (lN 0) (q := 41) dd_Md_below_40 rfl (by decide) ?_
      refine zx_lcmp (q := 42) dd_Md_below_41 rfl ?_
      refine zx_if_ge 49 (q := 45) dd_Md_below_42 rfl (by decide) (fun hc9 => ?_) (fun hc9 => ?_)
      · skip
        replace hc9 := lcmp_ge.mp hc9
        refine zx_iconst (nI 0) (q := 50) dd_Md_below_49 rfl (by decide) ?_
        exact zx_zret dd_Md_below_50 rfl (by decide) (by rw [zb_f]; exact hq _ (by first | (simp [pm_below, hc1, hc7, hc9]; done) | (clear hq; simp_all [pm_below]; done)))
      · skip
        replace hc9 := lcmp_nge.mp hc9
        refine zx_iconst (nI 1) (q := 46) dd_Md_below_45 rfl (by decide) ?_
        refine zx_goto 50 dd_Md_below_46 (by decide) ?_
        exact zx_zret dd_Md_below_50 rfl (by decide) (by rw [zb_1]; exact hq _ (by first | (simp [pm_below, hc1, hc7, hc9]; done) | (clear hq; simp_all [pm_below]; done)))
    · skip
      replace hc7 := lcmp_nge.mp hc7
      refine zx_iconst (nI 1) (q := 18) dd_Md_below_17 rfl (by decide) ?_
      refine zx_goto 22 dd_Md_below_18 (by decide) ?_
      refine zx_icmp_ne 39 (q := 25) dd_Md_below_22 rfl (by decide) (fun hc10 => absurd (by decide) hc10) (fun hc10 => ?_)
      refine zx_lload_n (q := 26) dd_Md_below_25 rfl rfl ?_
      refine zx_lload_n (q := 27) dd_Md_below_26 rfl rfl ?_
      refine zx_lcmp (q := 28) dd_Md_below_27 rfl ?_
      refine zx_if_ge 35 (q := 31) dd_Md_below_28 rfl (by decide) (fun hc11 => ?_) (fun hc11 => ?_)
      · skip
        replace hc11 := lcmp_ge.mp hc11
        refine zx_iconst (nI 0) (q := 36) dd_Md_below_35 rfl (by decide) ?_
        refine zx_goto 50 dd_Md_below_36 (by decide) ?_
        exact zx_zret dd_Md_below_50 rfl (by decide) (by rw [zb_f]; exact hq _ (by first | (simp [pm_below, hc1, hc7, hc11]; done) | (clear hq; simp_all [pm_below]; done)))
      · skip
        replace hc11 := lcmp_nge.mp hc11
        refine zx_iconst (nI 1) (q := 32) dd_Md_below_31 rfl (by decide) ?_
        refine zx_goto 50 dd_Md_below_32 (by decide) ?_
        exact zx_zret dd_Md_below_50 rfl (by decide) (by rw [zb_1]; exact hq _ (by first | (simp [pm_below, hc1, hc7, hc11]; done) | (clear hq; simp_all [pm_below]; done)))
