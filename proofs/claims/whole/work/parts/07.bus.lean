set_option maxRecDepth 100000 in
set_option maxHeartbeats 4000000 in
theorem ok_Ab_packetsFor {E : zxE} {n : Nat} {h : zxH} {Q : Option Value → zxH → Nat → Prop} {si : Int32} (hq : Q (some (.int (pc_pk si))) h n) : zx_Ok E my_Ab_packetsFor mi_Ab_packetsFor [.int si] (h) n Q := by
  refine zx_start [some (.int si)] (by decide) rfl rfl (Nat.le_of_ble_eq_true rfl) rfl ?_
  refine zx_iload_n (q := 1) dd_Ab_packetsFor_0 rfl rfl ?_
  refine zx_bipush (nI 7) (q := 3) dd_Ab_packetsFor_1 rfl (by decide) ?_
  refine zx_iadd (q := 4) dd_Ab_packetsFor_3 rfl ?_
  refine zx_iconst (nI 1) (q := 5) dd_Ab_packetsFor_4 rfl (by decide) ?_
  refine zx_isub (q := 6) dd_Ab_packetsFor_5 rfl ?_
  refine zx_bipush (nI 7) (q := 8) dd_Ab_packetsFor_6 rfl (by decide) ?_
  refine zx_idiv (q := 9) dd_Ab_packetsFor_8 rfl (by decide) ?_
  exact zx_iret dd_Ab_packetsFor_9 rfl hq
set_option maxRecDepth 100000 in
set_option maxHeartbeats 4000000 in
theorem ok_Ab_frameByte {E : zxE} {n : Nat} {h : zxH} {Q : Option Value → zxH → Nat → Prop} {d : Int64} {k : Int32} (hq : Q (some (.int (pc_fb d k))) h n) : zx_Ok E my_Ab_frameByte mi_Ab_frameByte [.long d, .int k] (h) n Q := by
  refine zx_start [some (.long d), none, some (.int k)] (by decide) rfl rfl (Nat.le_of_ble_eq_true rfl) rfl ?_
  refine zx_lload_n (q := 1) dd_Ab_frameByte_0 rfl rfl ?_
  refine zx_bipush (nI 8) (q := 3) dd_Ab_frameByte_1 rfl (by decide) ?_
  refine zx_iload_n (q := 4) dd_Ab_frameByte_3 rfl rfl ?_
  refine zx_iconst (nI 1) (q := 5) dd_Ab_frameByte_4 rfl (by decide) ?_
  refine zx_isub (q := 6) dd_Ab_frameByte_5 rfl ?_
  refine zx_imul (q := 7) dd_Ab_frameByte_6 rfl ?_
  refine zx_lushr (q := 8) dd_Ab_frameByte_7 rfl ?_
  refine zx_l2i (q := 9) dd_Ab_frameByte_8 rfl ?_
  refine zx_sipush (nI 255) (q := 12) dd_Ab_frameByte_9 rfl (by decide) ?_
  refine zx_iand (q := 13) dd_Ab_frameByte_12 rfl ?_
  exact zx_iret dd_Ab_frameByte_13 rfl hq
set_option maxRecDepth 100000 in
set_option maxHeartbeats 4000000 in
theorem ok_Ab_controlData {E : zxE} {n : Nat} {h : zxH} {Q : Option Value → zxH → Nat → Prop} {ki x2 x3 x4 gr : Int32} (hq : Q (some (.long (pc_ctl ki x2 x3 x4 gr))) h n) : zx_Ok E my_Ab_controlData mi_Ab_controlData [.int ki, .int x2, .int x3, .int x4, .int gr] (h) n Q := by
  refine zx_start [some (.int ki), some (.int x2), some (.int x3), some (.int x4), some (.int gr), none, none] (by decide) rfl rfl (Nat.le_of_ble_eq_true rfl) rfl ?_
  refine zx_iload (q := 2) dd_Ab_controlData_0 rfl rfl ?_
  refine zx_i2l (q := 3) dd_Ab_controlData_2 rfl ?_
  refine zx_bipush (nI 40) (q := 5) dd_Ab_controlData_3 rfl (by decide) ?_
  refine zx_lshl (q := 6) dd_Ab_controlData_5 rfl ?_
  refine zx_lstore_5 (q := 8) dd_Ab_controlData_6 rfl (by decide) rfl ?_
  refine zx_lload (q := 10) dd_Ab_controlData_8 rfl rfl ?_
  refine zx_ldc2 _ (q := 13) dd_Ab_controlData_10 rfl kk_Ab_169 ?_
  refine zx_ladd (q := 14) dd_Ab_controlData_13 rfl ?_
  refine zx_lstore_5 (q := 16) dd_Ab_controlData_14 rfl (by decide) rfl ?_
  refine zx_lload (q := 18) dd_Ab_controlData_16 rfl rfl ?_
  refine zx_iload_n (q := 19) dd_Ab_controlData_18 rfl rfl ?_
  refine zx_i2l (q := 20) dd_Ab_controlData_19 rfl ?_
  refine zx_bipush (nI 24) (q := 22) dd_Ab_controlData_20 rfl (by decide) ?_
  refine zx_lshl (q := 23) dd_Ab_controlData_22 rfl ?_
  refine zx_ladd (q := 24) dd_Ab_controlData_23 rfl ?_
  refine zx_lstore_5 (q := 26) dd_Ab_controlData_24 rfl (by decide) rfl ?_
  refine zx_lload (q := 28) dd_Ab_controlData_26 rfl rfl ?_
  refine zx_iload_n (q := 29) dd_Ab_controlData_28 rfl rfl ?_
  refine zx_bipush (nI 16) (q := 31) dd_Ab_controlData_29 rfl (by decide) ?_
  refine zx_ishl (q := 32) dd_Ab_controlData_31 rfl ?_
  refine zx_i2l (q := 33) dd_Ab_controlData_32 rfl ?_
  refine zx_ladd (q := 34) dd_Ab_controlData_33 rfl ?_
  refine zx_iload_n (q := 35) dd_Ab_controlData_34 rfl rfl ?_
  refine zx_bipush (nI 8) (q := 37) dd_Ab_controlData_35 rfl (by decide) ?_
  refine zx_ishl (q := 38) dd_Ab_controlData_37 rfl ?_
  refine zx_i2l (q := 39) dd_Ab_controlData_38 rfl ?_
  refine zx_ladd (q := 40) dd_Ab_controlData_39 rfl ?_
  refine zx_iload_n (q := 41) dd_Ab_controlData_40 rfl rfl ?_
  refine zx_i2l (q := 42) dd_Ab_controlData_41 rfl ?_
  refine zx_ladd (q := 43) dd_Ab_controlData_42 rfl ?_
  exact zx_lret dd_Ab_controlData_43 rfl hq
set_option maxRecDepth 100000 in
set_option maxHeartbeats 4000000 in
theorem ok_Ab_extentData {E : zxE} {n : Nat} {h : zxH} {Q : Option Value → zxH → Nat → Prop} {ki si gr : Int32} (hq : Q (some (.long (pc_ext ki si gr))) h n) : zx_Ok E my_Ab_extentData mi_Ab_extentData [.int ki, .int si, .int gr] (h) n Q := by
  refine zx_start [some (.int ki), some (.int si), some (.int gr)] (by decide) rfl rfl (Nat.le_of_ble_eq_true rfl) rfl ?_
  refine zx_iload_n (q := 1) dd_Ab_extentData_0 rfl rfl ?_
  refine zx_iload_n (q := 2) dd_Ab_extentData_1 rfl rfl ?_
  refine zx_sipush (nI 255) (q := 5) dd_Ab_extentData_2 rfl (by decide) ?_
  refine zx_iand (q := 6) dd_Ab_extentData_5 rfl ?_
  refine zx_iload_n (q := 7) dd_Ab_extentData_6 rfl rfl ?_
  refine zx_bipush (nI 8) (q := 9) dd_Ab_extentData_7 rfl (by decide) ?_
  refine zx_ishr (q := 10) dd_Ab_extentData_9 rfl ?_
  refine zx_iload_n (q := 11) dd_Ab_extentData_10 rfl rfl ?_
  refine zx_cS1i (q := 14) dd_Ab_extentData_11 rfl cs_Ab_extentData_171 ⟨rfl, rfl⟩ (Nat.le_of_ble_eq_true rfl) ⟨Nat.zero_le _, Nat.zero_le _⟩ (ok_Ab_packetsFor ⟨_, rfl, ?_⟩)
  refine zx_iload_n (q := 15) dd_Ab_extentData_14 rfl rfl ?_
  refine zx_cS5l (q := 18) dd_Ab_extentData_15 rfl cs_Ab_extentData_174 ⟨rfl, rfl⟩ (Nat.le_of_ble_eq_true rfl) ⟨Nat.zero_le _, Nat.zero_le _⟩ (ok_Ab_controlData ⟨_, rfl, ?_⟩)
  exact zx_lret dd_Ab_extentData_18 rfl hq
set_option maxRecDepth 100000 in
set_option maxHeartbeats 4000000 in
theorem ok_Ab_abortData {E : zxE} {n : Nat} {h : zxH} {Q : Option Value → zxH → Nat → Prop} {re gr : Int32} (hq : Q (some (.long (pc_abt re gr))) h n) : zx_Ok E my_Ab_abortData mi_Ab_abortData [.int re, .int gr] (h) n Q := by
  refine zx_start [some (.int re), some (.int gr)] (by decide) rfl rfl (Nat.le_of_ble_eq_true rfl) rfl ?_
  refine zx_sipush (nI 255) (q := 3) dd_Ab_abortData_0 rfl (by decide) ?_
  refine zx_iload_n (q := 4) dd_Ab_abortData_3 rfl rfl ?_
  refine zx_sipush (nI 255) (q := 7) dd_Ab_abortData_4 rfl (by decide) ?_
  refine zx_sipush (nI 255) (q := 10) dd_Ab_abortData_7 rfl (by decide) ?_
  refine zx_iload_n (q := 11) dd_Ab_abortData_10 rfl rfl ?_
  refine zx_cS5l (q := 14) dd_Ab_abortData_11 rfl cs_Ab_abortData_174 ⟨rfl, rfl⟩ (Nat.le_of_ble_eq_true rfl) ⟨Nat.zero_le _, Nat.zero_le _⟩ (ok_Ab_controlData ⟨_, rfl, ?_⟩)
  exact zx_lret dd_Ab_abortData_14 rfl hq
set_option maxRecDepth 100000 in
set_option maxHeartbeats 4000000 in
theorem ok_Bu_put {E : zxE} {b f n : Nat} {F : Nat → zFn} {D : zMd} {B : zB} {G : zFn} {Q : Option Value → zxH → Nat → Prop} {head tgt : Int32} {d : Int64} (hf : f < 5) (hw : B.2.2.2.1 ≤ 48) (hq : ∀ B', pc_put B (nI f) G.1 head tgt d = B' → B'.2.2.2.1 ≤ 48 → Q none (zs b (B', foc F f G, D)) n) : zx_Ok E my_Bu_put mi_Bu_put [.ref (b + 1), .ref (fa b f 1), .int head, .int tgt, .long d] (zs b (B, foc F f G, D)) n Q := by
  obtain ⟨ids, con, snd, cnt, ovf, now⟩ := B
  obtain ⟨ad, bz, nt, o, la, ou, xs, de, st, nm, hd⟩ := G
  have hcn : cnt ≤ 48 := hw
  refine zx_start [some (.ref (b + 1)), some (.ref (fa b f 1)), some (.int head), some (.int tgt), some (.long d), none] (by decide) rfl rfl (Nat.le_of_ble_eq_true rfl) rfl ?_
  refine zx_aload_n (q := 1) dd_Bu_put_0 rfl rfl ?_
  refine zx_get (q := 4) dd_Bu_put_1 rfl fl_Bu_22 at_b1 rfl ?_
  refine zx_bipush (nI 48) (q := 6) dd_Bu_put_4 rfl (by decide) ?_
  refine zx_icmp_lt 20 (q := 9) dd_Bu_put_6 rfl (by decide) (fun hc1 => ?_) (fun hc1 => ?_)
  · skip
    replace hc1 := (nI_ltI (by omega) (by decide)).mp hc1
    refine zx_aload_n (q := 21) dd_Bu_put_20 rfl rfl ?_
    refine zx_get (q := 24) dd_Bu_put_21 rfl fl_Bu_9 at_b1 rfl ?_
    refine zx_aload_n (q := 25) dd_Bu_put_24 rfl rfl ?_
    refine zx_get (q := 28) dd_Bu_put_25 rfl fl_Bu_22 at_b1 rfl ?_
    refine zx_iload_n (q := 29) dd_Bu_put_28 rfl rfl ?_
    refine zx_iload_n (q := 30) dd_Bu_put_29 rfl rfl ?_
    refine zx_bipush (nI 8) (q := 32) dd_Bu_put_30 rfl (by decide) ?_
    refine zx_ishl (q := 33) dd_Bu_put_32 rfl ?_
    refine zx_iadd (q := 34) dd_Bu_put_33 rfl ?_
    refine zx_aload_n (q := 35) dd_Bu_put_34 rfl rfl ?_
    refine zx_get (q := 38) dd_Bu_put_35 rfl fl_Bu_29 (at_f1 hf) rfl ?_
    refine zx_iadd (q := 39) dd_Bu_put_38 rfl ?_
    refine zx_iast (q := 40) dd_Bu_put_39 rfl at_b2 rfl (by omega) (by decide) up_b2 ?_
    refine zx_aload_n (q := 41) dd_Bu_put_40 rfl rfl ?_
    refine zx_get (q := 44) dd_Bu_put_41 rfl fl_Bu_15 at_b1 rfl ?_
    refine zx_aload_n (q := 45) dd_Bu_put_44 rfl rfl ?_
    refine zx_get (q := 48) dd_Bu_put_45 rfl fl_Bu_22 at_b1 rfl ?_
    refine zx_lload (q := 50) dd_Bu_put_48 rfl rfl ?_
    refine zx_last (q := 51) dd_Bu_put_50 rfl at_b3 rfl (by omega) (by decide) up_b3 ?_
    refine zx_aload_n (q := 52) dd_Bu_put_51 rfl rfl ?_
    refine zx_get (q := 55) dd_Bu_put_52 rfl fl_Bu_19 at_b1 rfl ?_
    refine zx_aload_n (q := 56) dd_Bu_put_55 rfl rfl ?_
    refine zx_get (q := 59) dd_Bu_put_56 rfl fl_Bu_22 at_b1 rfl ?_
    refine zx_aload_n (q := 60) dd_Bu_put_59 rfl rfl ?_
    refine zx_get (q := 63) dd_Bu_put_60 rfl fl_Bu_34 (at_f1 hf) rfl ?_
    refine zx_iast (q := 64) dd_Bu_put_63 rfl at_b4 rfl (by omega) (by decide) up_b4 ?_
    refine zx_aload_n (q := 65) dd_Bu_put_64 rfl rfl ?_
    refine zx_dup (q := 66) dd_Bu_put_65 rfl rfl ?_
    refine zx_get (q := 69) dd_Bu_put_66 rfl fl_Bu_22 at_b1 rfl ?_
    refine zx_iconst (nI 1) (q := 70) dd_Bu_put_69 rfl (by decide) ?_
    refine zx_iadd (q := 71) dd_Bu_put_70 rfl ?_
    refine zx_topi (nI_add _ _) ?_
    refine zx_put (q := 74) dd_Bu_put_71 rfl fl_Bu_22 at_b1 rfl rfl (Nat.le_of_ble_eq_true rfl) up_b1 ?_
    exact zx_vret dd_Bu_put_74 rfl (hq _ (by simp [pc_put, hc1]) (by simp; omega))
  · skip
    replace hc1 : ¬ cnt < 48 := fun z => hc1 ((nI_ltI (by omega) (by decide)).mpr z)
    refine zx_aload_n (q := 10) dd_Bu_put_9 rfl rfl ?_
    refine zx_dup (q := 11) dd_Bu_put_10 rfl rfl ?_
    refine zx_get (q := 14) dd_Bu_put_11 rfl fl_Bu_26 at_b1 rfl ?_
    refine zx_iconst (nI 1) (q := 15) dd_Bu_put_14 rfl (by decide) ?_
    refine zx_iadd (q := 16) dd_Bu_put_15 rfl ?_
    refine zx_put (q := 19) dd_Bu_put_16 rfl fl_Bu_26 at_b1 rfl rfl (Nat.le_of_ble_eq_true rfl) up_b1 ?_
    exact zx_vret dd_Bu_put_19 rfl (hq _ (by simp [pc_put, hc1]) (by simp; omega))
set_option maxRecDepth 100000 in
set_option maxHeartbeats 4000000 in
theorem ok_Bu_move {E : zxE} {b n : Nat} {F : Nat → zFn} {D : zMd} {Q : Option Value → zxH → Nat → Prop} {ids snd : Nat → Int32} {con : Nat → Int64} {cnt i j : Nat} {ovf : Int32} {now : Int64} (hi : i < 48) (hj : j < 48) (hq : Q none (zs b ((upd ids j (ids i), vp_updL con j (con i), upd snd j (snd i), cnt, ovf, now), F, D)) n) : zx_Ok E my_Bu_move mi_Bu_move [.ref (b + 1), .int (nI i), .int (nI j)] (zs b ((ids, con, snd, cnt, ovf, now), F, D)) n Q := by
  refine zx_start [some (.ref (b + 1)), some (.int (nI i)), some (.int (nI j))] (by decide) rfl rfl (Nat.le_of_ble_eq_true rfl) rfl ?_
  refine zx_aload_n (q := 1) dd_Bu_move_0 rfl rfl ?_
  refine zx_get (q := 4) dd_Bu_move_1 rfl fl_Bu_9 at_b1 rfl ?_
  refine zx_iload_n (q := 5) dd_Bu_move_4 rfl rfl ?_
  refine zx_aload_n (q := 6) dd_Bu_move_5 rfl rfl ?_
  refine zx_get (q := 9) dd_Bu_move_6 rfl fl_Bu_9 at_b1 rfl ?_
  refine zx_iload_n (q := 10) dd_Bu_move_9 rfl rfl ?_
  refine zx_iald (q := 11) dd_Bu_move_10 rfl at_b2 rfl (by omega) (by decide) ?_
  refine zx_iast (q := 12) dd_Bu_move_11 rfl at_b2 rfl (by omega) (by decide) up_b2 ?_
  refine zx_aload_n (q := 13) dd_Bu_move_12 rfl rfl ?_
  refine zx_get (q := 16) dd_Bu_move_13 rfl fl_Bu_15 at_b1 rfl ?_
  refine zx_iload_n (q := 17) dd_Bu_move_16 rfl rfl ?_
  refine zx_aload_n (q := 18) dd_Bu_move_17 rfl rfl ?_
  refine zx_get (q := 21) dd_Bu_move_18 rfl fl_Bu_15 at_b1 rfl ?_
  refine zx_iload_n (q := 22) dd_Bu_move_21 rfl rfl ?_
  refine zx_lald (q := 23) dd_Bu_move_22 rfl at_b3 rfl (by omega) (by decide) ?_
  refine zx_last (q := 24) dd_Bu_move_23 rfl at_b3 rfl (by omega) (by decide) up_b3 ?_
  refine zx_aload_n (q := 25) dd_Bu_move_24 rfl rfl ?_
  refine zx_get (q := 28) dd_Bu_move_25 rfl fl_Bu_19 at_b1 rfl ?_
  refine zx_iload_n (q := 29) dd_Bu_move_28 rfl rfl ?_
  refine zx_aload_n (q := 30) dd_Bu_move_29 rfl rfl ?_
  refine zx_get (q := 33) dd_Bu_move_30 rfl fl_Bu_19 at_b1 rfl ?_
  refine zx_iload_n (q := 34) dd_Bu_move_33 rfl rfl ?_
  refine zx_iald (q := 35) dd_Bu_move_34 rfl at_b4 rfl (by omega) (by decide) ?_
  refine zx_iast (q := 36) dd_Bu_move_35 rfl at_b4 rfl (by omega) (by decide) up_b4 ?_
  exact zx_vret dd_Bu_move_36 rfl hq
set_option maxRecDepth 100000 in
set_option maxHeartbeats 4000000 in
theorem lo_Bu_placeOfNext {E : zxE} {b n : Nat} {F : Nat → zFn} {D : zMd} {Q : Option Value → zxH → Nat → Prop} {ids snd : Nat → Int32} {con : Nat → Int64} {cnt : Nat} {ovf : Int32} {now : Int64} (hcn : cnt ≤ 48) (hq : Q (some (.int (nI (pc_least ids (cnt - 1))))) (zs b ((ids, con, snd, cnt, ovf, now), F, D)) n) : ∀ k i : Nat, 1 ≤ i → i + k = cnt → zx_X E mi_Bu_placeOfNext (zx_Y E mi_Bu_placeOfNext Q) 15 [some (.ref (b + 1)), some (.int (nI (pc_least ids (i - 1)))), some (.int (nI i))] [] (zs b ((ids, con, snd, cnt, ovf, now), F, D)) n 0 0 := by
  intro k
  induction k with
  | zero =>
    intro i h1 h2
    have h3 : i = cnt := by omega
    subst h3
    refine zx_iload_n (q := 16) dd_Bu_placeOfNext_15 rfl rfl ?_
    refine zx_aload_n (q := 17) dd_Bu_placeOfNext_16 rfl rfl ?_
    refine zx_get (q := 20) dd_Bu_placeOfNext_17 rfl fl_Bu_22 at_b1 rfl ?_
    refine zx_icmp_ge 46 (q := 23) dd_Bu_placeOfNext_20 rfl (by decide) (fun hc1 => ?_) (fun hc1 => absurd ((nI_leI (by omega) (by omega)).mpr (Nat.le_refl _)) hc1)
    refine zx_iload_n (q := 47) dd_Bu_placeOfNext_46 rfl rfl ?_
    exact zx_iret dd_Bu_placeOfNext_47 rfl hq
  | succ k ih =>
    intro i h1 h2
    have hl := pc_least_le ids (i - 1)
    have hs : pc_least ids i = if ids i < ids (pc_least ids (i - 1)) then i else pc_least ids (i - 1) := by
      obtain ⟨j, rfl⟩ : ∃ j, i = j + 1 := ⟨i - 1, by omega⟩
      rfl
    have ih := ih (i + 1) (by omega) (by omega)
    rw [Nat.add_sub_cancel, hs] at ih
    refine zx_iload_n (q := 16) dd_Bu_placeOfNext_15 rfl rfl ?_
    refine zx_aload_n (q := 17) dd_Bu_placeOfNext_16 rfl rfl ?_
    refine zx_get (q := 20) dd_Bu_placeOfNext_17 rfl fl_Bu_22 at_b1 rfl ?_
    refine zx_icmp_ge 46 (q := 23) dd_Bu_placeOfNext_20 rfl (by decide) (fun hc1 => absurd hc1 (fun z => absurd ((nI_leI (by omega) (by omega)).mp z) (by omega))) (fun hc1 => ?_)
    refine zx_aload_n (q := 24) dd_Bu_placeOfNext_23 rfl rfl ?_
    refine zx_get (q := 27) dd_Bu_placeOfNext_24 rfl fl_Bu_9 at_b1 rfl ?_
    refine zx_iload_n (q := 28) dd_Bu_placeOfNext_27 rfl rfl ?_
    refine zx_iald (q := 29) dd_Bu_placeOfNext_28 rfl at_b2 rfl (by omega) (by decide) ?_
    refine zx_aload_n (q := 30) dd_Bu_placeOfNext_29 rfl rfl ?_
    refine zx_get (q := 33) dd_Bu_placeOfNext_30 rfl fl_Bu_9 at_b1 rfl ?_
    refine zx_iload_n (q := 34) dd_Bu_placeOfNext_33 rfl rfl ?_
    refine zx_iald (q := 35) dd_Bu_placeOfNext_34 rfl at_b2 rfl (by omega) (by decide) ?_
    refine zx_icmp_ge 40 (q := 38) dd_Bu_placeOfNext_35 rfl (by decide) (fun hc2 => ?_) (fun hc2 => ?_)
    · skip
      replace hc2 : ¬ ids i < ids (pc_least ids (i - 1)) := fun z => Int32.lt_irrefl (Int32.lt_of_lt_of_le z hc2)
      refine zx_iincN_2 (q := 43) dd_Bu_placeOfNext_40 rfl (by decide) rfl ?_
      refine zx_goto 15 dd_Bu_placeOfNext_43 (by decide) ?_
      first | (rw [if_pos hc2] at ih; exact ih) | (rw [if_neg hc2] at ih; exact ih)
    · skip
      replace hc2 : ids i < ids (pc_least ids (i - 1)) := Int32.not_le.mp hc2
      refine zx_iload_n (q := 39) dd_Bu_placeOfNext_38 rfl rfl ?_
      refine zx_istore_1 (q := 40) dd_Bu_placeOfNext_39 rfl (by decide) rfl ?_
      refine zx_iincN_2 (q := 43) dd_Bu_placeOfNext_40 rfl (by decide) rfl ?_
      refine zx_goto 15 dd_Bu_placeOfNext_43 (by decide) ?_
      first | (rw [if_pos hc2] at ih; exact ih) | (rw [if_neg hc2] at ih; exact ih)
set_option maxRecDepth 100000 in
set_option maxHeartbeats 4000000 in
theorem ok_Bu_placeOfNext {E : zxE} {b n : Nat} {F : Nat → zFn} {D : zMd} {B : zB} {Q : Option Value → zxH → Nat → Prop} (hw : B.2.2.2.1 ≤ 48) (hq : Q (some (.int (pc_next B.1 B.2.2.2.1))) (zs b (B, F, D)) n) : zx_Ok E my_Bu_placeOfNext mi_Bu_placeOfNext [.ref (b + 1)] (zs b (B, F, D)) n Q := by
  obtain ⟨ids, con, snd, cnt, ovf, now⟩ := B
  have hcn : cnt ≤ 48 := hw
  have hq : Q (some (.int (pc_next ids cnt))) (zs b ((ids, con, snd, cnt, ovf, now), F, D)) n := hq
  refine zx_start [some (.ref (b + 1)), none, none] (by decide) rfl rfl (Nat.le_of_ble_eq_true rfl) rfl ?_
  refine zx_aload_n (q := 1) dd_Bu_placeOfNext_0 rfl rfl ?_
  refine zx_get (q := 4) dd_Bu_placeOfNext_1 rfl fl_Bu_22 at_b1 rfl ?_
  refine zx_if_le 11 (q := 7) dd_Bu_placeOfNext_4 rfl (by decide) (fun hc1 => ?_) (fun hc1 => ?_)
  · skip
    replace hc1 : cnt = 0 := by
      have := (nI_leI (a := cnt) (b := 0) (by omega) (by decide)).mp hc1
      omega
    subst hc1
    refine zx_iconst (-1) (q := 12) dd_Bu_placeOfNext_11 rfl (by decide) ?_
    refine zx_istore_1 (q := 13) dd_Bu_placeOfNext_12 rfl (by decide) rfl ?_
    refine zx_iconst (nI 1) (q := 14) dd_Bu_placeOfNext_13 rfl (by decide) ?_
    refine zx_istore_2 (q := 15) dd_Bu_placeOfNext_14 rfl (by decide) rfl ?_
    refine zx_iload_n (q := 16) dd_Bu_placeOfNext_15 rfl rfl ?_
    refine zx_aload_n (q := 17) dd_Bu_placeOfNext_16 rfl rfl ?_
    refine zx_get (q := 20) dd_Bu_placeOfNext_17 rfl fl_Bu_22 at_b1 rfl ?_
    refine zx_icmp_ge 46 (q := 23) dd_Bu_placeOfNext_20 rfl (by decide) (fun hc2 => ?_) (fun hc2 => absurd (by decide) hc2)
    refine zx_iload_n (q := 47) dd_Bu_placeOfNext_46 rfl rfl ?_
    exact zx_iret dd_Bu_placeOfNext_47 rfl hq
  · skip
    replace hc1 : cnt ≠ 0 := fun z => hc1 (by subst z; decide)
    refine zx_iconst (nI 0) (q := 8) dd_Bu_placeOfNext_7 rfl (by decide) ?_
    refine zx_goto 12 dd_Bu_placeOfNext_8 (by decide) ?_
    refine zx_istore_1 (q := 13) dd_Bu_placeOfNext_12 rfl (by decide) rfl ?_
    refine zx_iconst (nI 1) (q := 14) dd_Bu_placeOfNext_13 rfl (by decide) ?_
    refine zx_istore_2 (q := 15) dd_Bu_placeOfNext_14 rfl (by decide) rfl ?_
    rw [show pc_next ids cnt = nI (pc_least ids (cnt - 1)) from if_neg (by omega)] at hq
    exact lo_Bu_placeOfNext hcn hq (cnt - 1) 1 (Nat.le_refl _) (by omega)
set_option maxRecDepth 100000 in
set_option maxHeartbeats 4000000 in
theorem lo_Bu_takeAway {E : zxE} {b n : Nat} {F : Nat → zFn} {D : zMd} {Q : Option Value → zxH → Nat → Prop} {ids snd : Nat → Int32} {con : Nat → Int64} {cnt p : Nat} {ovf : Int32} {now : Int64} (hcn : cnt ≤ 48) (hp : p < cnt) (hq : Q none (zs b (pc_take (ids, con, snd, cnt, ovf, now) p, F, D)) n) : ∀ k i : Nat, p ≤ i → i + 1 + k = cnt → zx_X E mi_Bu_takeAway (zx_Y E mi_Bu_takeAway Q) 2 [some (.ref (b + 1)), some (.int (nI p)), some (.int (nI i))] [] (zs b ((pc_shift ids p i, pc_shift con p i, pc_shift snd p i, cnt, ovf, now), F, D)) n 0 0 := by
  intro k
  induction k with
  | zero =>
    intro i h1 h2
    have h3 : i = cnt - 1 := by omega
    refine zx_iload_n (q := 3) dd_Bu_takeAway_2 rfl rfl ?_
    refine zx_aload_n (q := 4) dd_Bu_takeAway_3 rfl rfl ?_
    refine zx_get (q := 7) dd_Bu_takeAway_4 rfl fl_Bu_22 at_b1 rfl ?_
    refine zx_iconst (nI 1) (q := 8) dd_Bu_takeAway_7 rfl (by decide) ?_
    refine zx_isub (q := 9) dd_Bu_takeAway_8 rfl ?_
    refine zx_topi (pk_sub (by omega)) ?_
    refine zx_icmp_ge 26 (q := 12) dd_Bu_takeAway_9 rfl (by decide) (fun hc1 => ?_) (fun hc1 => absurd ((nI_leI (by omega) (by omega)).mpr (by omega)) hc1)
    refine zx_aload_n (q := 27) dd_Bu_takeAway_26 rfl rfl ?_
    refine zx_dup (q := 28) dd_Bu_takeAway_27 rfl rfl ?_
    refine zx_get (q := 31) dd_Bu_takeAway_28 rfl fl_Bu_22 at_b1 rfl ?_
    refine zx_iconst (nI 1) (q := 32) dd_Bu_takeAway_31 rfl (by decide) ?_
    refine zx_isub (q := 33) dd_Bu_takeAway_32 rfl ?_
    refine zx_topi (pk_sub (by omega)) ?_
    refine zx_put (q := 36) dd_Bu_takeAway_33 rfl fl_Bu_22 at_b1 rfl rfl (Nat.le_of_ble_eq_true rfl) up_b1 ?_
    exact zx_vret dd_Bu_takeAway_36 rfl (by subst h3; exact hq)
  | succ k ih =>
    intro i h1 h2
    have ih := ih (i + 1) (by omega) (by omega)
    refine zx_iload_n (q := 3) dd_Bu_takeAway_2 rfl rfl ?_
    refine zx_aload_n (q := 4) dd_Bu_takeAway_3 rfl rfl ?_
    refine zx_get (q := 7) dd_Bu_takeAway_4 rfl fl_Bu_22 at_b1 rfl ?_
    refine zx_iconst (nI 1) (q := 8) dd_Bu_takeAway_7 rfl (by decide) ?_
    refine zx_isub (q := 9) dd_Bu_takeAway_8 rfl ?_
    refine zx_topi (pk_sub (by omega)) ?_
    refine zx_icmp_ge 26 (q := 12) dd_Bu_takeAway_9 rfl (by decide) (fun hc1 => absurd hc1 (fun z => absurd ((nI_leI (by omega) (by omega)).mp z) (by omega))) (fun hc1 => ?_)
    refine zx_aload_n (q := 13) dd_Bu_takeAway_12 rfl rfl ?_
    refine zx_iload_n (q := 14) dd_Bu_takeAway_13 rfl rfl ?_
    refine zx_iconst (nI 1) (q := 15) dd_Bu_takeAway_14 rfl (by decide) ?_
    refine zx_iadd (q := 16) dd_Bu_takeAway_15 rfl ?_
    refine zx_topi (nI_add _ _) ?_
    refine zx_iload_n (q := 17) dd_Bu_takeAway_16 rfl rfl ?_
    refine zx_cV2v (q := 20) dd_Bu_takeAway_17 rfl cv_Bu_takeAway_37 ⟨rfl, rfl⟩ at_b1 rfl rfl (Nat.le_of_ble_eq_true rfl) ⟨Nat.zero_le _, Nat.zero_le _⟩ (ok_Bu_move (by omega) (by omega) ⟨rfl, ?_⟩)
    refine zx_iincN_2 (q := 23) dd_Bu_takeAway_20 rfl (by decide) rfl ?_
    refine zx_goto 2 dd_Bu_takeAway_23 (by decide) ?_
    rw [pc_shift_s h1, pc_shift_s h1, pc_shift_l h1]
    exact ih
set_option maxRecDepth 100000 in
set_option maxHeartbeats 4000000 in
theorem ok_Bu_takeAway {E : zxE} {b n : Nat} {F : Nat → zFn} {D : zMd} {B : zB} {Q : Option Value → zxH → Nat → Prop} {p : Nat} (hw : B.2.2.2.1 ≤ 48) (hp : p < B.2.2.2.1) (hq : Q none (zs b (pc_take B p, F, D)) n) : zx_Ok E my_Bu_takeAway mi_Bu_takeAway [.ref (b + 1), .int (nI p)] (zs b (B, F, D)) n Q := by
  obtain ⟨ids, con, snd, cnt, ovf, now⟩ := B
  have hcn : cnt ≤ 48 := hw
  have hp : p < cnt := hp
  refine zx_start [some (.ref (b + 1)), some (.int (nI p)), none] (by decide) rfl rfl (Nat.le_of_ble_eq_true rfl) rfl ?_
  refine zx_iload_n (q := 1) dd_Bu_takeAway_0 rfl rfl ?_
  refine zx_istore_2 (q := 2) dd_Bu_takeAway_1 rfl (by decide) rfl ?_
  have hx := lo_Bu_takeAway (E := E) (b := b) (n := n) (F := F) (D := D) (Q := Q) hcn hp hq (cnt - 1 - p) p (Nat.le_refl _) (by omega)
  rw [pc_shift_0, pc_shift_0, pc_shift_0] at hx
  exact hx
set_option maxRecDepth 100000 in
set_option maxHeartbeats 4000000 in
theorem lo_Bu_takeAwayFramesOf {E : zxE} {b n : Nat} {F : Nat → zFn} {D : zMd} {Q : Option Value → zxH → Nat → Prop} {ids snd : Nat → Int32} {con : Nat → Int64} {cnt : Nat} {s ovf : Int32} {now : Int64} (hcn : cnt ≤ 48) (hq : Q none (zs b (pc_takeOf (ids, con, snd, cnt, ovf, now) s, F, D)) n) : ∀ (k i j : Nat) (i2 s2 : Nat → Int32) (c2 : Nat → Int64), i + k = cnt → pc_keep s ids con snd i = (j, i2, c2, s2) → zx_X E mi_Bu_takeAwayFramesOf (zx_Y E mi_Bu_takeAwayFramesOf Q) 4 [some (.ref (b + 1)), some (.int s), some (.int (nI j)), some (.int (nI i))] [] (zs b ((i2, c2, s2, cnt, ovf, now), F, D)) n 0 0 := by
  intro k
  induction k with
  | zero =>
    intro i j i2 s2 c2 h2 he
    have h3 : i = cnt := by omega
    subst h3
    refine zx_iload_n (q := 5) dd_Bu_takeAwayFramesOf_4 rfl rfl ?_
    refine zx_aload_n (q := 6) dd_Bu_takeAwayFramesOf_5 rfl rfl ?_
    refine zx_get (q := 9) dd_Bu_takeAwayFramesOf_6 rfl fl_Bu_22 at_b1 rfl ?_
    refine zx_icmp_ge 37 (q := 12) dd_Bu_takeAwayFramesOf_9 rfl (by decide) (fun hc1 => ?_) (fun hc1 => absurd ((nI_leI (by omega) (by omega)).mpr (Nat.le_refl _)) hc1)
    refine zx_aload_n (q := 38) dd_Bu_takeAwayFramesOf_37 rfl rfl ?_
    refine zx_iload_n (q := 39) dd_Bu_takeAwayFramesOf_38 rfl rfl ?_
    refine zx_put (q := 42) dd_Bu_takeAwayFramesOf_39 rfl fl_Bu_22 at_b1 rfl rfl (Nat.le_of_ble_eq_true rfl) up_b1 ?_
    exact zx_vret dd_Bu_takeAwayFramesOf_42 rfl (by simp only [pc_takeOf, he] at hq; exact hq)
  | succ k ih =>
    intro i j i2 s2 c2 h2 he
    have hj : j ≤ i := by have := pc_keep_le s ids con snd i; rw [he] at this; exact this
    refine zx_iload_n (q := 5) dd_Bu_takeAwayFramesOf_4 rfl rfl ?_
    refine zx_aload_n (q := 6) dd_Bu_takeAwayFramesOf_5 rfl rfl ?_
    refine zx_get (q := 9) dd_Bu_takeAwayFramesOf_6 rfl fl_Bu_22 at_b1 rfl ?_
    refine zx_icmp_ge 37 (q := 12) dd_Bu_takeAwayFramesOf_9 rfl (by decide) (fun hc1 => absurd hc1 (fun z => absurd ((nI_leI (by omega) (by omega)).mp z) (by omega))) (fun hc1 => ?_)
    refine zx_aload_n (q := 13) dd_Bu_takeAwayFramesOf_12 rfl rfl ?_
    refine zx_get (q := 16) dd_Bu_takeAwayFramesOf_13 rfl fl_Bu_19 at_b1 rfl ?_
    refine zx_iload_n (q := 17) dd_Bu_takeAwayFramesOf_16 rfl rfl ?_
    refine zx_iald (q := 18) dd_Bu_takeAwayFramesOf_17 rfl at_b4 rfl (by omega) (by decide) ?_
    refine zx_iload_n (q := 19) dd_Bu_takeAwayFramesOf_18 rfl rfl ?_
    refine zx_icmp_eq 31 (q := 22) dd_Bu_takeAwayFramesOf_19 rfl (by decide) (fun hc2 => ?_) (fun hc2 => ?_)
    · skip
      refine zx_iincN_3 (q := 34) dd_Bu_takeAwayFramesOf_31 rfl (by decide) rfl ?_
      refine zx_goto 4 dd_Bu_takeAwayFramesOf_34 (by decide) ?_
      exact ih (i + 1) _ _ _ _ (by omega) (by simp [pc_keep, he, eq_true hc2])
    · skip
      refine zx_aload_n (q := 23) dd_Bu_takeAwayFramesOf_22 rfl rfl ?_
      refine zx_iload_n (q := 24) dd_Bu_takeAwayFramesOf_23 rfl rfl ?_
      refine zx_iload_n (q := 25) dd_Bu_takeAwayFramesOf_24 rfl rfl ?_
      refine zx_cV2v (q := 28) dd_Bu_takeAwayFramesOf_25 rfl cv_Bu_takeAwayFramesOf_37 ⟨rfl, rfl⟩ at_b1 rfl rfl (Nat.le_of_ble_eq_true rfl) ⟨Nat.zero_le _, Nat.zero_le _⟩ (ok_Bu_move (by omega) (by omega) ⟨rfl, ?_⟩)
      refine zx_iincN_2 (q := 31) dd_Bu_takeAwayFramesOf_28 rfl (by decide) rfl ?_
      refine zx_iincN_3 (q := 34) dd_Bu_takeAwayFramesOf_31 rfl (by decide) rfl ?_
      refine zx_goto 4 dd_Bu_takeAwayFramesOf_34 (by decide) ?_
      exact ih (i + 1) _ _ _ _ (by omega) (by simp [pc_keep, he, hc2])
set_option maxRecDepth 100000 in
set_option maxHeartbeats 4000000 in
theorem ok_Bu_takeAwayFramesOf {E : zxE} {b n : Nat} {F : Nat → zFn} {D : zMd} {B : zB} {Q : Option Value → zxH → Nat → Prop} {s : Int32} (hw : B.2.2.2.1 ≤ 48) (hq : Q none (zs b (pc_takeOf B s, F, D)) n) : zx_Ok E my_Bu_takeAwayFramesOf mi_Bu_takeAwayFramesOf [.ref (b + 1), .int s] (zs b (B, F, D)) n Q := by
  obtain ⟨ids, con, snd, cnt, ovf, now⟩ := B
  have hcn : cnt ≤ 48 := hw
  refine zx_start [some (.ref (b + 1)), some (.int s), none, none] (by decide) rfl rfl (Nat.le_of_ble_eq_true rfl) rfl ?_
  refine zx_iconst (nI 0) (q := 1) dd_Bu_takeAwayFramesOf_0 rfl (by decide) ?_
  refine zx_istore_2 (q := 2) dd_Bu_takeAwayFramesOf_1 rfl (by decide) rfl ?_
  refine zx_iconst (nI 0) (q := 3) dd_Bu_takeAwayFramesOf_2 rfl (by decide) ?_
  refine zx_istore_3 (q := 4) dd_Bu_takeAwayFramesOf_3 rfl (by decide) rfl ?_
  exact lo_Bu_takeAwayFramesOf hcn hq cnt 0 0 _ _ _ (by omega) rfl
