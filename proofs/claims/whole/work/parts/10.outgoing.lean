set_option maxRecDepth 100000 in
set_option maxHeartbeats 4000000 in
theorem ok_Ou_end {E : zxE} {b f n : Nat} {F : Nat → zFn} {D : zMd} {B : zB} {ad : Int32} {bz : Bool} {nt : Nat → Int32} {o : Nat} {la : zMs} {ou : zOu} {xs : Nat → zIn} {de st : Int32} {nm hd : Int64} {Q : Option Value → zxH → Nat → Prop} {how : Int32} (hf : f < 5) (hq : Q none (zs b (B, foc F f (ad, bz, nt, o, la, (pc_oend ou how), xs, de, st, nm, hd), D)) n) : zx_Ok E my_Ou_end mi_Ou_end [.ref (fa b f 6), .int how] (zs b (B, foc F f (ad, bz, nt, o, la, ou, xs, de, st, nm, hd), D)) n Q := by
  obtain ⟨ph, re, tg, gp, sz, se, nx, du⟩ := ou
  refine zx_start [some (.ref (fa b f 6)), some (.int how)] (by decide) rfl rfl (Nat.le_of_ble_eq_true rfl) rfl ?_
  refine zx_aload_n (q := 1) dd_Ou_end_0 rfl rfl ?_
  refine zx_iconst (nI 0) (q := 2) dd_Ou_end_1 rfl (by decide) ?_
  refine zx_put (q := 5) dd_Ou_end_2 rfl fl_Ou_9 (at_f6 hf) rfl rfl (Nat.le_of_ble_eq_true rfl) (up_f6 hf) ?_
  refine zx_aload_n (q := 6) dd_Ou_end_5 rfl rfl ?_
  refine zx_iload_n (q := 7) dd_Ou_end_6 rfl rfl ?_
  refine zx_put (q := 10) dd_Ou_end_7 rfl fl_Ou_58 (at_f6 hf) rfl rfl (Nat.le_of_ble_eq_true rfl) (up_f6 hf) ?_
  refine zx_aload_n (q := 11) dd_Ou_end_10 rfl rfl ?_
  refine zx_ldc2 _ (q := 14) dd_Ou_end_11 rfl kk_Ou_15 ?_
  refine zx_put (q := 17) dd_Ou_end_14 rfl fl_Ou_17 (at_f6 hf) rfl rfl (Nat.le_of_ble_eq_true rfl) (up_f6 hf) ?_
  exact zx_vret dd_Ou_end_17 rfl hq
set_option maxRecDepth 100000 in
set_option maxHeartbeats 4000000 in
theorem ok_Ou_isWith {E : zxE} {b f n : Nat} {F : Nat → zFn} {D : zMd} {B : zB} {ad : Int32} {bz : Bool} {nt : Nat → Int32} {o : Nat} {la : zMs} {ou : zOu} {xs : Nat → zIn} {de st : Int32} {nm hd : Int64} {Q : Option Value → zxH → Nat → Prop} {so gr : Int32} (hf : f < 5) (hq : ∀ r, pc_isWith ou so gr = r → Q (some (.int (zb r))) (zs b (B, foc F f (ad, bz, nt, o, la, ou, xs, de, st, nm, hd), D)) n) : zx_Ok E my_Ou_isWith mi_Ou_isWith [.ref (fa b f 6), .int so, .int gr] (zs b (B, foc F f (ad, bz, nt, o, la, ou, xs, de, st, nm, hd), D)) n Q := by
  obtain ⟨ph, re, tg, gp, sz, se, nx, du⟩ := ou
  refine zx_start [some (.ref (fa b f 6)), some (.int so), some (.int gr)] (by decide) rfl rfl (Nat.le_of_ble_eq_true rfl) rfl ?_
  refine zx_aload_n (q := 1) dd_Ou_isWith_0 rfl rfl ?_
  refine zx_get (q := 4) dd_Ou_isWith_1 rfl fl_Ou_9 (at_f6 hf) rfl ?_
  refine zx_iconst (nI 2) (q := 5) dd_Ou_isWith_4 rfl (by decide) ?_
  refine zx_icmp_eq 16 (q := 8) dd_Ou_isWith_5 rfl (by decide) (fun hc1 => ?_) (fun hc1 => ?_)
  · skip
    refine zx_aload_n (q := 17) dd_Ou_isWith_16 rfl rfl ?_
    refine zx_get (q := 20) dd_Ou_isWith_17 rfl fl_Ou_29 (at_f6 hf) rfl ?_
    refine zx_iload_n (q := 21) dd_Ou_isWith_20 rfl rfl ?_
    refine zx_icmp_ne 36 (q := 24) dd_Ou_isWith_21 rfl (by decide) (fun hc2 => ?_) (fun hc2 => ?_)
    · skip
      refine zx_iconst (nI 0) (q := 37) dd_Ou_isWith_36 rfl (by decide) ?_
      exact zx_zret dd_Ou_isWith_37 rfl (by decide) (by rw [zb_f]; exact hq _ (by simp [pc_isWith, eq_true hc1, hc2]))
    · skip
      refine zx_aload_n (q := 25) dd_Ou_isWith_24 rfl rfl ?_
      refine zx_get (q := 28) dd_Ou_isWith_25 rfl fl_Ou_32 (at_f6 hf) rfl ?_
      refine zx_iload_n (q := 29) dd_Ou_isWith_28 rfl rfl ?_
      refine zx_icmp_ne 36 (q := 32) dd_Ou_isWith_29 rfl (by decide) (fun hc3 => ?_) (fun hc3 => ?_)
      · skip
        refine zx_iconst (nI 0) (q := 37) dd_Ou_isWith_36 rfl (by decide) ?_
        exact zx_zret dd_Ou_isWith_37 rfl (by decide) (by rw [zb_f]; exact hq _ (by simp [pc_isWith, eq_true hc1, eq_true hc2, hc3]))
      · skip
        refine zx_iconst (nI 1) (q := 33) dd_Ou_isWith_32 rfl (by decide) ?_
        refine zx_goto 37 dd_Ou_isWith_33 (by decide) ?_
        exact zx_zret dd_Ou_isWith_37 rfl (by decide) (by rw [zb_1]; exact hq _ (by simp [pc_isWith, eq_true hc1, eq_true hc2, eq_true hc3]))
  · skip
    refine zx_aload_n (q := 9) dd_Ou_isWith_8 rfl rfl ?_
    refine zx_get (q := 12) dd_Ou_isWith_9 rfl fl_Ou_9 (at_f6 hf) rfl ?_
    refine zx_iconst (nI 3) (q := 13) dd_Ou_isWith_12 rfl (by decide) ?_
    refine zx_icmp_ne 36 (q := 16) dd_Ou_isWith_13 rfl (by decide) (fun hc4 => ?_) (fun hc4 => ?_)
    · skip
      refine zx_iconst (nI 0) (q := 37) dd_Ou_isWith_36 rfl (by decide) ?_
      exact zx_zret dd_Ou_isWith_37 rfl (by decide) (by rw [zb_f]; exact hq _ (by simp [pc_isWith, hc1, hc4]))
    · skip
      refine zx_aload_n (q := 17) dd_Ou_isWith_16 rfl rfl ?_
      refine zx_get (q := 20) dd_Ou_isWith_17 rfl fl_Ou_29 (at_f6 hf) rfl ?_
      refine zx_iload_n (q := 21) dd_Ou_isWith_20 rfl rfl ?_
      refine zx_icmp_ne 36 (q := 24) dd_Ou_isWith_21 rfl (by decide) (fun hc5 => ?_) (fun hc5 => ?_)
      · skip
        refine zx_iconst (nI 0) (q := 37) dd_Ou_isWith_36 rfl (by decide) ?_
        exact zx_zret dd_Ou_isWith_37 rfl (by decide) (by rw [zb_f]; exact hq _ (by simp [pc_isWith, hc1, eq_true hc4, hc5]))
      · skip
        refine zx_aload_n (q := 25) dd_Ou_isWith_24 rfl rfl ?_
        refine zx_get (q := 28) dd_Ou_isWith_25 rfl fl_Ou_32 (at_f6 hf) rfl ?_
        refine zx_iload_n (q := 29) dd_Ou_isWith_28 rfl rfl ?_
        refine zx_icmp_ne 36 (q := 32) dd_Ou_isWith_29 rfl (by decide) (fun hc6 => ?_) (fun hc6 => ?_)
        · skip
          refine zx_iconst (nI 0) (q := 37) dd_Ou_isWith_36 rfl (by decide) ?_
          exact zx_zret dd_Ou_isWith_37 rfl (by decide) (by rw [zb_f]; exact hq _ (by simp [pc_isWith, hc1, eq_true hc4, eq_true hc5, hc6]))
        · skip
          refine zx_iconst (nI 1) (q := 33) dd_Ou_isWith_32 rfl (by decide) ?_
          refine zx_goto 37 dd_Ou_isWith_33 (by decide) ?_
          exact zx_zret dd_Ou_isWith_37 rfl (by decide) (by rw [zb_1]; exact hq _ (by simp [pc_isWith, hc1, eq_true hc4, eq_true hc5, eq_true hc6]))
set_option maxRecDepth 100000 in
set_option maxHeartbeats 4000000 in
theorem lo_Ou_sendPacket {E : zxE} {b f n : Nat} {F : Nat → zFn} {D : zMd} {B : zB} {ad : Int32} {bz : Bool} {nt : Nat → Int32} {o : Nat} {la : zMs} {xs : Nat → zIn} {de st : Int32} {nm hd : Int64} {Q : Option Value → zxH → Nat → Prop} {ph re tg gp sz nx k : Int32} {se du : Int64} (hf : f < 5) (hw : B.2.2.2.1 ≤ 48) (hq : ∀ B', pc_sendPkt B (nI f) ad (ph, re, tg, gp, sz, se, nx, du) k = B' → B'.2.2.2.1 ≤ 48 → Q none (zs b (B', foc F f (ad, bz, nt, o, la, (ph, re, tg, gp, sz, se, nx, du), xs, de, st, nm, hd), D)) n) : ∀ j m : Nat, m + j = 7 → zx_X E mi_Ou_sendPacket (zx_Y E mi_Ou_sendPacket Q) 6 [some (.ref (fa b f 6)), some (.int k), some (.long (pc_acc sz se k m)), none, some (.int (nI m)), none, none, none] [] (zs b (B, foc F f (ad, bz, nt, o, la, (ph, re, tg, gp, sz, se, nx, du), xs, de, st, nm, hd), D)) n 0 0 := by
  intro j
  induction j with
  | zero =>
    intro m h2
    have h3 : m = 7 := by omega
    subst h3
    refine zx_iload (q := 8) dd_Ou_sendPacket_6 rfl rfl ?_
    refine zx_bipush (nI 7) (q := 10) dd_Ou_sendPacket_8 rfl (by decide) ?_
    refine zx_icmp_ge 81 (q := 13) dd_Ou_sendPacket_10 rfl (by decide) (fun hc1 => ?_) (fun hc1 => absurd (by decide) hc1)
    refine zx_aload_n (q := 82) dd_Ou_sendPacket_81 rfl rfl ?_
    refine zx_get (q := 85) dd_Ou_sendPacket_82 rfl fl_Ou_21 (at_f6 hf) rfl ?_
    refine zx_aload_n (q := 86) dd_Ou_sendPacket_85 rfl rfl ?_
    refine zx_get (q := 89) dd_Ou_sendPacket_86 rfl fl_Ou_25 (at_f6 hf) rfl ?_
    refine zx_ldc _ (q := 91) dd_Ou_sendPacket_89 rfl kk_Ou_93 ?_
    refine zx_aload_n (q := 92) dd_Ou_sendPacket_91 rfl rfl ?_
    refine zx_get (q := 95) dd_Ou_sendPacket_92 rfl fl_Ou_29 (at_f6 hf) rfl ?_
    refine zx_lload_n (q := 96) dd_Ou_sendPacket_95 rfl rfl ?_
    refine zx_cV4v (q := 99) dd_Ou_sendPacket_96 rfl cv_Ou_sendPacket_49 ⟨rfl, rfl⟩ at_b1 rfl rfl (Nat.le_of_ble_eq_true rfl) ⟨Nat.zero_le _, Nat.zero_le _⟩ (ok_Bu_put hf hw fun B1 he1 hw1 => ⟨rfl, ?_⟩)
    obtain ⟨ids1, con1, snd1, cnt1, ovf1, now1⟩ := B1
    exact zx_vret dd_Ou_sendPacket_99 rfl (hq _ he1 hw1)
  | succ j ih =>
    intro m h2
    have ih := ih (m + 1) (by omega)
    refine zx_iload (q := 8) dd_Ou_sendPacket_6 rfl rfl ?_
    refine zx_bipush (nI 7) (q := 10) dd_Ou_sendPacket_8 rfl (by decide) ?_
    refine zx_icmp_ge 81 (q := 13) dd_Ou_sendPacket_10 rfl (by decide) (fun hc1 => absurd hc1 (fun z => absurd ((nI_leI (by decide) (by omega)).mp z) (by omega))) (fun hc1 => ?_)
    refine zx_bipush (nI 7) (q := 15) dd_Ou_sendPacket_13 rfl (by decide) ?_
    refine zx_iload_n (q := 16) dd_Ou_sendPacket_15 rfl rfl ?_
    refine zx_iconst (nI 1) (q := 17) dd_Ou_sendPacket_16 rfl (by decide) ?_
    refine zx_isub (q := 18) dd_Ou_sendPacket_17 rfl ?_
    refine zx_imul (q := 19) dd_Ou_sendPacket_18 rfl ?_
    refine zx_iload (q := 21) dd_Ou_sendPacket_19 rfl rfl ?_
    refine zx_iadd (q := 22) dd_Ou_sendPacket_21 rfl ?_
    refine zx_istore_5 (q := 24) dd_Ou_sendPacket_22 rfl (by decide) rfl ?_
    refine zx_iload (q := 26) dd_Ou_sendPacket_24 rfl rfl ?_
    refine zx_aload_n (q := 27) dd_Ou_sendPacket_26 rfl rfl ?_
    refine zx_get (q := 30) dd_Ou_sendPacket_27 rfl fl_Ou_35 (at_f6 hf) rfl ?_
    refine zx_icmp_ge 57 (q := 33) dd_Ou_sendPacket_30 rfl (by decide) (fun hc2 => ?_) (fun hc2 => ?_)
    · skip
      refine zx_ldc2 _ (q := 60) dd_Ou_sendPacket_57 rfl kk_Ou_91 ?_
      refine zx_lstore_6 (q := 62) dd_Ou_sendPacket_60 rfl (by decide) rfl ?_
      refine zx_lload_n (q := 63) dd_Ou_sendPacket_62 rfl rfl ?_
      refine zx_lload (q := 65) dd_Ou_sendPacket_63 rfl rfl ?_
      refine zx_bipush (nI 8) (q := 67) dd_Ou_sendPacket_65 rfl (by decide) ?_
      refine zx_iload (q := 69) dd_Ou_sendPacket_67 rfl rfl ?_
      refine zx_iconst (nI 1) (q := 70) dd_Ou_sendPacket_69 rfl (by decide) ?_
      refine zx_iadd (q := 71) dd_Ou_sendPacket_70 rfl ?_
      refine zx_topi (nI_add _ _) ?_
      refine zx_imul (q := 72) dd_Ou_sendPacket_71 rfl ?_
      refine zx_topi (pk_mul _ _) ?_
      refine zx_lshl (q := 73) dd_Ou_sendPacket_72 rfl ?_
      refine zx_ladd (q := 74) dd_Ou_sendPacket_73 rfl ?_
      refine zx_lstore_2 (q := 75) dd_Ou_sendPacket_74 rfl (by decide) rfl ?_
      refine zx_iincN_4 (q := 78) dd_Ou_sendPacket_75 rfl (by decide) rfl ?_
      refine zx_goto 6 dd_Ou_sendPacket_78 (by decide) ?_
      refine zx_fg (zx_fgp [_, _, _, _, _] _ 3) ?_
      simp only [pc_acc, pc_val, hc2, if_true, if_false, if_pos, if_neg, not_false_eq_true] at ih
      exact ih
    · skip
      refine zx_aload_n (q := 34) dd_Ou_sendPacket_33 rfl rfl ?_
      refine zx_get (q := 37) dd_Ou_sendPacket_34 rfl fl_Ou_38 (at_f6 hf) rfl ?_
      refine zx_bipush (nI 8) (q := 39) dd_Ou_sendPacket_37 rfl (by decide) ?_
      refine zx_iload (q := 41) dd_Ou_sendPacket_39 rfl rfl ?_
      refine zx_bipush (nI 8) (q := 43) dd_Ou_sendPacket_41 rfl (by decide) ?_
      refine zx_irem (q := 44) dd_Ou_sendPacket_43 rfl (by decide) ?_
      refine zx_imul (q := 45) dd_Ou_sendPacket_44 rfl ?_
      refine zx_lshr (q := 46) dd_Ou_sendPacket_45 rfl ?_
      refine zx_iload (q := 48) dd_Ou_sendPacket_46 rfl rfl ?_
      refine zx_i2l (q := 49) dd_Ou_sendPacket_48 rfl ?_
      refine zx_ladd (q := 50) dd_Ou_sendPacket_49 rfl ?_
      refine zx_ldc2 _ (q := 53) dd_Ou_sendPacket_50 rfl kk_Ou_91 ?_
      refine zx_land (q := 54) dd_Ou_sendPacket_53 rfl ?_
      refine zx_goto 60 dd_Ou_sendPacket_54 (by decide) ?_
      refine zx_lstore_6 (q := 62) dd_Ou_sendPacket_60 rfl (by decide) rfl ?_
      refine zx_lload_n (q := 63) dd_Ou_sendPacket_62 rfl rfl ?_
      refine zx_lload (q := 65) dd_Ou_sendPacket_63 rfl rfl ?_
      refine zx_bipush (nI 8) (q := 67) dd_Ou_sendPacket_65 rfl (by decide) ?_
      refine zx_iload (q := 69) dd_Ou_sendPacket_67 rfl rfl ?_
      refine zx_iconst (nI 1) (q := 70) dd_Ou_sendPacket_69 rfl (by decide) ?_
      refine zx_iadd (q := 71) dd_Ou_sendPacket_70 rfl ?_
      refine zx_topi (nI_add _ _) ?_
      refine zx_imul (q := 72) dd_Ou_sendPacket_71 rfl ?_
      refine zx_topi (pk_mul _ _) ?_
      refine zx_lshl (q := 73) dd_Ou_sendPacket_72 rfl ?_
      refine zx_ladd (q := 74) dd_Ou_sendPacket_73 rfl ?_
      refine zx_lstore_2 (q := 75) dd_Ou_sendPacket_74 rfl (by decide) rfl ?_
      refine zx_iincN_4 (q := 78) dd_Ou_sendPacket_75 rfl (by decide) rfl ?_
      refine zx_goto 6 dd_Ou_sendPacket_78 (by decide) ?_
      refine zx_fg (zx_fgp [_, _, _, _, _] _ 3) ?_
      simp only [pc_acc, pc_val, hc2, if_true, if_false, if_pos, if_neg, not_false_eq_true] at ih
      exact ih
set_option maxRecDepth 100000 in
set_option maxHeartbeats 4000000 in
theorem ok_Ou_sendPacket {E : zxE} {b f n : Nat} {F : Nat → zFn} {D : zMd} {B : zB} {ad : Int32} {bz : Bool} {nt : Nat → Int32} {o : Nat} {la : zMs} {ou : zOu} {xs : Nat → zIn} {de st : Int32} {nm hd : Int64} {Q : Option Value → zxH → Nat → Prop} {k : Int32} (hf : f < 5) (hw : B.2.2.2.1 ≤ 48) (hq : ∀ B', pc_sendPkt B (nI f) ad ou k = B' → B'.2.2.2.1 ≤ 48 → Q none (zs b (B', foc F f (ad, bz, nt, o, la, ou, xs, de, st, nm, hd), D)) n) : zx_Ok E my_Ou_sendPacket mi_Ou_sendPacket [.ref (fa b f 6), .int k] (zs b (B, foc F f (ad, bz, nt, o, la, ou, xs, de, st, nm, hd), D)) n Q := by
  obtain ⟨ph, re, tg, gp, sz, se, nx, du⟩ := ou
  refine zx_start [some (.ref (fa b f 6)), some (.int k), none, none, none, none, none, none] (by decide) rfl rfl (Nat.le_of_ble_eq_true rfl) rfl ?_
  refine zx_iload_n (q := 1) dd_Ou_sendPacket_0 rfl rfl ?_
  refine zx_i2l (q := 2) dd_Ou_sendPacket_1 rfl ?_
  refine zx_lstore_2 (q := 3) dd_Ou_sendPacket_2 rfl (by decide) rfl ?_
  refine zx_iconst (nI 0) (q := 4) dd_Ou_sendPacket_3 rfl (by decide) ?_
  refine zx_istore_4 (q := 6) dd_Ou_sendPacket_4 rfl (by decide) rfl ?_
  exact lo_Ou_sendPacket hf hw hq 7 0 (by omega)
set_option maxRecDepth 100000 in
set_option maxHeartbeats 4000000 in
theorem ok_Ou_sendNextToAll {E : zxE} {b f n : Nat} {F : Nat → zFn} {D : zMd} {B : zB} {ad : Int32} {bz : Bool} {nt : Nat → Int32} {o : Nat} {la : zMs} {ou : zOu} {xs : Nat → zIn} {de st : Int32} {nm hd : Int64} {Q : Option Value → zxH → Nat → Prop} (hf : f < 5) (hw : B.2.2.2.1 ≤ 48) (hq : ∀ B' x', pc_sendNext B (nI f) ad ou = (B', x') → B'.2.2.2.1 ≤ 48 → Q none (zs b (B', foc F f (ad, bz, nt, o, la, x', xs, de, st, nm, hd), D)) n) : zx_Ok E my_Ou_sendNextToAll mi_Ou_sendNextToAll [.ref (fa b f 6)] (zs b (B, foc F f (ad, bz, nt, o, la, ou, xs, de, st, nm, hd), D)) n Q := by
  obtain ⟨ids, con, snd, cnt, ovf, now⟩ := B
  obtain ⟨ph, re, tg, gp, sz, se, nx, du⟩ := ou
  refine zx_start [some (.ref (fa b f 6))] (by decide) rfl rfl (Nat.le_of_ble_eq_true rfl) rfl ?_
  refine zx_aload_n (q := 1) dd_Ou_sendNextToAll_0 rfl rfl ?_
  refine zx_aload_n (q := 2) dd_Ou_sendNextToAll_1 rfl rfl ?_
  refine zx_get (q := 5) dd_Ou_sendNextToAll_2 rfl fl_Ou_41 (at_f6 hf) rfl ?_
  refine zx_cV1v (q := 8) dd_Ou_sendNextToAll_5 rfl cv_Ou_sendNextToAll_73 ⟨rfl, rfl⟩ (at_f6 hf) rfl rfl (Nat.le_of_ble_eq_true rfl) ⟨Nat.zero_le _, Nat.zero_le _⟩ (ok_Ou_sendPacket hf hw fun B2 he2 hw2 => ⟨rfl, ?_⟩)
  obtain ⟨ids2, con2, snd2, cnt2, ovf2, now2⟩ := B2
  refine zx_aload_n (q := 9) dd_Ou_sendNextToAll_8 rfl rfl ?_
  refine zx_dup (q := 10) dd_Ou_sendNextToAll_9 rfl rfl ?_
  refine zx_get (q := 13) dd_Ou_sendNextToAll_10 rfl fl_Ou_41 (at_f6 hf) rfl ?_
  refine zx_iconst (nI 1) (q := 14) dd_Ou_sendNextToAll_13 rfl (by decide) ?_
  refine zx_iadd (q := 15) dd_Ou_sendNextToAll_14 rfl ?_
  refine zx_put (q := 18) dd_Ou_sendNextToAll_15 rfl fl_Ou_41 (at_f6 hf) rfl rfl (Nat.le_of_ble_eq_true rfl) (up_f6 hf) ?_
  refine zx_aload_n (q := 19) dd_Ou_sendNextToAll_18 rfl rfl ?_
  refine zx_get (q := 22) dd_Ou_sendNextToAll_19 rfl fl_Ou_41 (at_f6 hf) rfl ?_
  refine zx_aload_n (q := 23) dd_Ou_sendNextToAll_22 rfl rfl ?_
  refine zx_get (q := 26) dd_Ou_sendNextToAll_23 rfl fl_Ou_35 (at_f6 hf) rfl ?_
  refine zx_cN1i (q := 29) dd_Ou_sendNextToAll_26 rfl cs_Ou_sendNextToAll_63 ⟨rfl, rfl⟩ (Nat.le_of_ble_eq_true rfl) ⟨Nat.zero_le _, Nat.zero_le _⟩ (ok_Ab_packetsFor ⟨_, rfl, ?_⟩)
  refine zx_icmp_le 41 (q := 32) dd_Ou_sendNextToAll_29 rfl (by decide) (fun hc1 => ?_) (fun hc1 => ?_)
  · skip
    refine zx_aload_n (q := 42) dd_Ou_sendNextToAll_41 rfl rfl ?_
    refine zx_aload_n (q := 43) dd_Ou_sendNextToAll_42 rfl rfl ?_
    refine zx_get (q := 46) dd_Ou_sendNextToAll_43 rfl fl_Ou_21 (at_f6 hf) rfl ?_
    refine zx_get (q := 49) dd_Ou_sendNextToAll_46 rfl fl_Ou_55 at_b1 rfl ?_
    refine zx_ldc2 _ (q := 52) dd_Ou_sendNextToAll_49 rfl kk_Ou_89 ?_
    refine zx_ladd (q := 53) dd_Ou_sendNextToAll_52 rfl ?_
    refine zx_put (q := 56) dd_Ou_sendNextToAll_53 rfl fl_Ou_17 (at_f6 hf) rfl rfl (Nat.le_of_ble_eq_true rfl) (up_f6 hf) ?_
    exact zx_vret dd_Ou_sendNextToAll_56 rfl (hq _ _ (by first | (simp [pc_sendNext, he2, hc1]; done) | (clear hq; simp_all [pc_sendNext]; done)) hw2)
  · skip
    refine zx_aload_n (q := 33) dd_Ou_sendNextToAll_32 rfl rfl ?_
    refine zx_bipush (nI 10) (q := 35) dd_Ou_sendNextToAll_33 rfl (by decide) ?_
    refine zx_cV1v (q := 38) dd_Ou_sendNextToAll_35 rfl cv_Ou_sendNextToAll_86 ⟨rfl, rfl⟩ (at_f6 hf) rfl rfl (Nat.le_of_ble_eq_true rfl) ⟨Nat.zero_le _, Nat.zero_le _⟩ (ok_Ou_end hf ⟨rfl, ?_⟩)
    refine zx_goto 56 dd_Ou_sendNextToAll_38 (by decide) ?_
    exact zx_vret dd_Ou_sendNextToAll_56 rfl (hq _ _ (by first | (simp [pc_sendNext, he2, hc1]; done) | (clear hq; simp_all [pc_sendNext]; done)) hw2)
set_option maxRecDepth 100000 in
set_option maxHeartbeats 4000000 in
theorem ok_Ou_goOff {E : zxE} {b f n : Nat} {F : Nat → zFn} {D : zMd} {B : zB} {ad : Int32} {bz : Bool} {nt : Nat → Int32} {o : Nat} {la : zMs} {ou : zOu} {xs : Nat → zIn} {de st : Int32} {nm hd : Int64} {Q : Option Value → zxH → Nat → Prop} (hf : f < 5) (hw : B.2.2.2.1 ≤ 48) (hq : ∀ B' x', pc_ogoOff B (nI f) ad ou = (B', x') → B'.2.2.2.1 ≤ 48 → Q none (zs b (B', foc F f (ad, bz, nt, o, la, x', xs, de, st, nm, hd), D)) n) : zx_Ok E my_Ou_goOff mi_Ou_goOff [.ref (fa b f 6)] (zs b (B, foc F f (ad, bz, nt, o, la, ou, xs, de, st, nm, hd), D)) n Q := by
  obtain ⟨ids, con, snd, cnt, ovf, now⟩ := B
  obtain ⟨ph, re, tg, gp, sz, se, nx, du⟩ := ou
  refine zx_start [some (.ref (fa b f 6))] (by decide) rfl rfl (Nat.le_of_ble_eq_true rfl) rfl ?_
  refine zx_aload_n (q := 1) dd_Ou_goOff_0 rfl rfl ?_
  refine zx_get (q := 4) dd_Ou_goOff_1 rfl fl_Ou_9 (at_f6 hf) rfl ?_
  refine zx_iconst (nI 1) (q := 5) dd_Ou_goOff_4 rfl (by decide) ?_
  refine zx_icmp_ne 15 (q := 8) dd_Ou_goOff_5 rfl (by decide) (fun hc1 => ?_) (fun hc1 => ?_)
  · skip
    refine zx_aload_n (q := 16) dd_Ou_goOff_15 rfl rfl ?_
    refine zx_get (q := 19) dd_Ou_goOff_16 rfl fl_Ou_21 (at_f6 hf) rfl ?_
    refine zx_aload_n (q := 20) dd_Ou_goOff_19 rfl rfl ?_
    refine zx_get (q := 23) dd_Ou_goOff_20 rfl fl_Ou_25 (at_f6 hf) rfl ?_
    refine zx_ldc _ (q := 25) dd_Ou_goOff_23 rfl kk_Ou_44 ?_
    refine zx_aload_n (q := 26) dd_Ou_goOff_25 rfl rfl ?_
    refine zx_get (q := 29) dd_Ou_goOff_26 rfl fl_Ou_29 (at_f6 hf) rfl ?_
    refine zx_iconst (nI 3) (q := 30) dd_Ou_goOff_29 rfl (by decide) ?_
    refine zx_aload_n (q := 31) dd_Ou_goOff_30 rfl rfl ?_
    refine zx_get (q := 34) dd_Ou_goOff_31 rfl fl_Ou_32 (at_f6 hf) rfl ?_
    refine zx_cN2l (q := 37) dd_Ou_goOff_34 rfl cs_Ou_goOff_82 ⟨rfl, rfl⟩ (Nat.le_of_ble_eq_true rfl) ⟨Nat.zero_le _, Nat.zero_le _⟩ (ok_Ab_abortData ⟨_, rfl, ?_⟩)
    refine zx_cV4v (q := 40) dd_Ou_goOff_37 rfl cv_Ou_goOff_49 ⟨rfl, rfl⟩ at_b1 rfl rfl (Nat.le_of_ble_eq_true rfl) ⟨Nat.zero_le _, Nat.zero_le _⟩ (ok_Bu_put hf hw fun B3 he3 hw3 => ⟨rfl, ?_⟩)
    obtain ⟨ids3, con3, snd3, cnt3, ovf3, now3⟩ := B3
    refine zx_aload_n (q := 41) dd_Ou_goOff_40 rfl rfl ?_
    refine zx_bipush (nI 11) (q := 43) dd_Ou_goOff_41 rfl (by decide) ?_
    refine zx_cV1v (q := 46) dd_Ou_goOff_43 rfl cv_Ou_goOff_86 ⟨rfl, rfl⟩ (at_f6 hf) rfl rfl (Nat.le_of_ble_eq_true rfl) ⟨Nat.zero_le _, Nat.zero_le _⟩ (ok_Ou_end hf ⟨rfl, ?_⟩)
    exact zx_vret dd_Ou_goOff_46 rfl (hq _ _ (by first | (simp [pc_ogoOff, hc1, he3]; done) | (clear hq; simp_all [pc_ogoOff]; done)) hw3)
  · skip
    refine zx_aload_n (q := 9) dd_Ou_goOff_8 rfl rfl ?_
    refine zx_cV0v (q := 12) dd_Ou_goOff_9 rfl cv_Ou_goOff_79 ⟨rfl, rfl⟩ (at_f6 hf) rfl rfl (Nat.le_of_ble_eq_true rfl) ⟨Nat.zero_le _, Nat.zero_le _⟩ (ok_Ou_sendNextToAll hf hw fun B4 x4 he4 hw4 => ⟨rfl, ?_⟩)
    obtain ⟨ids4, con4, snd4, cnt4, ovf4, now4⟩ := B4
    obtain ⟨ph4, re4, tg4, gp4, sz4, se4, nx4, du4⟩ := x4
    refine zx_goto 46 dd_Ou_goOff_12 (by decide) ?_
    exact zx_vret dd_Ou_goOff_46 rfl (hq _ _ (by first | (simp [pc_ogoOff, eq_true hc1, he4]; done) | (clear hq; simp_all [pc_ogoOff]; done)) hw4)
set_option maxRecDepth 100000 in
set_option maxHeartbeats 4000000 in
theorem ok_Ou_begin {E : zxE} {b f n : Nat} {F : Nat → zFn} {D : zMd} {B : zB} {ad : Int32} {bz : Bool} {nt : Nat → Int32} {o : Nat} {la : zMs} {ou : zOu} {xs : Nat → zIn} {de st : Int32} {nm hd : Int64} {Q : Option Value → zxH → Nat → Prop} {tg gr si : Int32} {se : Int64} (hf : f < 5) (hw : B.2.2.2.1 ≤ 48) (hq : ∀ B' x', pc_obegin B (nI f) ad ou tg gr si se = (B', x') → B'.2.2.2.1 ≤ 48 → Q none (zs b (B', foc F f (ad, bz, nt, o, la, x', xs, de, st, nm, hd), D)) n) : zx_Ok E my_Ou_begin mi_Ou_begin [.ref (fa b f 6), .int tg, .int gr, .int si, .long se] (zs b (B, foc F f (ad, bz, nt, o, la, ou, xs, de, st, nm, hd), D)) n Q := by
  obtain ⟨ids, con, snd, cnt, ovf, now⟩ := B
  obtain ⟨ph, re, tg0, gp, sz, se0, nx, du⟩ := ou
  refine zx_start [some (.ref (fa b f 6)), some (.int tg), some (.int gr), some (.int si), some (.long se), none, none] (by decide) rfl rfl (Nat.le_of_ble_eq_true rfl) rfl ?_
  refine zx_aload_n (q := 1) dd_Ou_begin_0 rfl rfl ?_
  refine zx_iload_n (q := 2) dd_Ou_begin_1 rfl rfl ?_
  refine zx_put (q := 5) dd_Ou_begin_2 rfl fl_Ou_29 (at_f6 hf) rfl rfl (Nat.le_of_ble_eq_true rfl) (up_f6 hf) ?_
  refine zx_aload_n (q := 6) dd_Ou_begin_5 rfl rfl ?_
  refine zx_iload_n (q := 7) dd_Ou_begin_6 rfl rfl ?_
  refine zx_put (q := 10) dd_Ou_begin_7 rfl fl_Ou_32 (at_f6 hf) rfl rfl (Nat.le_of_ble_eq_true rfl) (up_f6 hf) ?_
  refine zx_aload_n (q := 11) dd_Ou_begin_10 rfl rfl ?_
  refine zx_iload_n (q := 12) dd_Ou_begin_11 rfl rfl ?_
  refine zx_put (q := 15) dd_Ou_begin_12 rfl fl_Ou_35 (at_f6 hf) rfl rfl (Nat.le_of_ble_eq_true rfl) (up_f6 hf) ?_
  refine zx_aload_n (q := 16) dd_Ou_begin_15 rfl rfl ?_
  refine zx_lload (q := 18) dd_Ou_begin_16 rfl rfl ?_
  refine zx_put (q := 21) dd_Ou_begin_18 rfl fl_Ou_38 (at_f6 hf) rfl rfl (Nat.le_of_ble_eq_true rfl) (up_f6 hf) ?_
  refine zx_aload_n (q := 22) dd_Ou_begin_21 rfl rfl ?_
  refine zx_iconst (nI 1) (q := 23) dd_Ou_begin_22 rfl (by decide) ?_
  refine zx_put (q := 26) dd_Ou_begin_23 rfl fl_Ou_41 (at_f6 hf) rfl rfl (Nat.le_of_ble_eq_true rfl) (up_f6 hf) ?_
  refine zx_iload_n (q := 27) dd_Ou_begin_26 rfl rfl ?_
  refine zx_sipush (nI 255) (q := 30) dd_Ou_begin_27 rfl (by decide) ?_
  refine zx_icmp_ne 37 (q := 33) dd_Ou_begin_30 rfl (by decide) (fun hc1 => ?_) (fun hc1 => ?_)
  · skip
    refine zx_iconst (nI 0) (q := 38) dd_Ou_begin_37 rfl (by decide) ?_
    refine zx_istore_6 (q := 40) dd_Ou_begin_38 rfl (by decide) rfl ?_
    refine zx_aload_n (q := 41) dd_Ou_begin_40 rfl rfl ?_
    refine zx_iload (q := 43) dd_Ou_begin_41 rfl rfl ?_
    refine zx_if_eq 50 (q := 46) dd_Ou_begin_43 rfl (by decide) (fun hc2 => ?_) (fun hc2 => absurd (by decide) hc2)
    refine zx_iconst (nI 2) (q := 51) dd_Ou_begin_50 rfl (by decide) ?_
    refine zx_put (q := 54) dd_Ou_begin_51 rfl fl_Ou_9 (at_f6 hf) rfl rfl (Nat.le_of_ble_eq_true rfl) (up_f6 hf) ?_
    refine zx_aload_n (q := 55) dd_Ou_begin_54 rfl rfl ?_
    refine zx_get (q := 58) dd_Ou_begin_55 rfl fl_Ou_21 (at_f6 hf) rfl ?_
    refine zx_aload_n (q := 59) dd_Ou_begin_58 rfl rfl ?_
    refine zx_get (q := 62) dd_Ou_begin_59 rfl fl_Ou_25 (at_f6 hf) rfl ?_
    refine zx_ldc _ (q := 64) dd_Ou_begin_62 rfl kk_Ou_44 ?_
    refine zx_iload_n (q := 65) dd_Ou_begin_64 rfl rfl ?_
    refine zx_iload (q := 67) dd_Ou_begin_65 rfl rfl ?_
    refine zx_if_eq 75 (q := 70) dd_Ou_begin_67 rfl (by decide) (fun hc3 => ?_) (fun hc3 => absurd (by decide) hc3)
    refine zx_bipush (nI 16) (q := 77) dd_Ou_begin_75 rfl (by decide) ?_
    refine zx_iload_n (q := 78) dd_Ou_begin_77 rfl rfl ?_
    refine zx_iload_n (q := 79) dd_Ou_begin_78 rfl rfl ?_
    refine zx_cN3l (q := 82) dd_Ou_begin_79 rfl cs_Ou_begin_45 ⟨rfl, rfl⟩ (Nat.le_of_ble_eq_true rfl) ⟨Nat.zero_le _, Nat.zero_le _⟩ (ok_Ab_extentData ⟨_, rfl, ?_⟩)
    refine zx_cV4v (q := 85) dd_Ou_begin_82 rfl cv_Ou_begin_49 ⟨rfl, rfl⟩ at_b1 rfl rfl (Nat.le_of_ble_eq_true rfl) ⟨Nat.zero_le _, Nat.zero_le _⟩ (ok_Bu_put hf hw fun B5 he5 hw5 => ⟨rfl, ?_⟩)
    obtain ⟨ids5, con5, snd5, cnt5, ovf5, now5⟩ := B5
    refine zx_aload_n (q := 86) dd_Ou_begin_85 rfl rfl ?_
    refine zx_aload_n (q := 87) dd_Ou_begin_86 rfl rfl ?_
    refine zx_get (q := 90) dd_Ou_begin_87 rfl fl_Ou_21 (at_f6 hf) rfl ?_
    refine zx_get (q := 93) dd_Ou_begin_90 rfl fl_Ou_55 at_b1 rfl ?_
    refine zx_iload (q := 95) dd_Ou_begin_93 rfl rfl ?_
    refine zx_if_eq 103 (q := 98) dd_Ou_begin_95 rfl (by decide) (fun hc4 => ?_) (fun hc4 => absurd (by decide) hc4)
    refine zx_sipush (nI 1250) (q := 106) dd_Ou_begin_103 rfl (by decide) ?_
    refine zx_i2l (q := 107) dd_Ou_begin_106 rfl ?_
    refine zx_topl (nI_l (by decide)) ?_
    refine zx_ladd (q := 108) dd_Ou_begin_107 rfl ?_
    refine zx_put (q := 111) dd_Ou_begin_108 rfl fl_Ou_17 (at_f6 hf) rfl rfl (Nat.le_of_ble_eq_true rfl) (up_f6 hf) ?_
    exact zx_vret dd_Ou_begin_111 rfl (hq _ _ (by first | (simp [pc_obegin, hc1, he5]; done) | (clear hq; simp_all [pc_obegin]; done)) hw5)
  · skip
    refine zx_iconst (nI 1) (q := 34) dd_Ou_begin_33 rfl (by decide) ?_
    refine zx_goto 38 dd_Ou_begin_34 (by decide) ?_
    refine zx_istore_6 (q := 40) dd_Ou_begin_38 rfl (by decide) rfl ?_
    refine zx_aload_n (q := 41) dd_Ou_begin_40 rfl rfl ?_
    refine zx_iload (q := 43) dd_Ou_begin_41 rfl rfl ?_
    refine zx_if_eq 50 (q := 46) dd_Ou_begin_43 rfl (by decide) (fun hc5 => absurd hc5 (by decide)) (fun hc5 => ?_)
    refine zx_iconst (nI 1) (q := 47) dd_Ou_begin_46 rfl (by decide) ?_
    refine zx_goto 51 dd_Ou_begin_47 (by decide) ?_
    refine zx_put (q := 54) dd_Ou_begin_51 rfl fl_Ou_9 (at_f6 hf) rfl rfl (Nat.le_of_ble_eq_true rfl) (up_f6 hf) ?_
    refine zx_aload_n (q := 55) dd_Ou_begin_54 rfl rfl ?_
    refine zx_get (q := 58) dd_Ou_begin_55 rfl fl_Ou_21 (at_f6 hf) rfl ?_
    refine zx_aload_n (q := 59) dd_Ou_begin_58 rfl rfl ?_
    refine zx_get (q := 62) dd_Ou_begin_59 rfl fl_Ou_25 (at_f6 hf) rfl ?_
    refine zx_ldc _ (q := 64) dd_Ou_begin_62 rfl kk_Ou_44 ?_
    refine zx_iload_n (q := 65) dd_Ou_begin_64 rfl rfl ?_
    refine zx_iload (q := 67) dd_Ou_begin_65 rfl rfl ?_
    refine zx_if_eq 75 (q := 70) dd_Ou_begin_67 rfl (by decide) (fun hc6 => absurd hc6 (by decide)) (fun hc6 => ?_)
    refine zx_bipush (nI 32) (q := 72) dd_Ou_begin_70 rfl (by decide) ?_
    refine zx_goto 77 dd_Ou_begin_72 (by decide) ?_
    refine zx_iload_n (q := 78) dd_Ou_begin_77 rfl rfl ?_
    refine zx_iload_n (q := 79) dd_Ou_begin_78 rfl rfl ?_
    refine zx_cN3l (q := 82) dd_Ou_begin_79 rfl cs_Ou_begin_45 ⟨rfl, rfl⟩ (Nat.le_of_ble_eq_true rfl) ⟨Nat.zero_le _, Nat.zero_le _⟩ (ok_Ab_extentData ⟨_, rfl, ?_⟩)
    refine zx_cV4v (q := 85) dd_Ou_begin_82 rfl cv_Ou_begin_49 ⟨rfl, rfl⟩ at_b1 rfl rfl (Nat.le_of_ble_eq_true rfl) ⟨Nat.zero_le _, Nat.zero_le _⟩ (ok_Bu_put hf hw fun B6 he6 hw6 => ⟨rfl, ?_⟩)
    obtain ⟨ids6, con6, snd6, cnt6, ovf6, now6⟩ := B6
    refine zx_aload_n (q := 86) dd_Ou_begin_85 rfl rfl ?_
    refine zx_aload_n (q := 87) dd_Ou_begin_86 rfl rfl ?_
    refine zx_get (q := 90) dd_Ou_begin_87 rfl fl_Ou_21 (at_f6 hf) rfl ?_
    refine zx_get (q := 93) dd_Ou_begin_90 rfl fl_Ou_55 at_b1 rfl ?_
    refine zx_iload (q := 95) dd_Ou_begin_93 rfl rfl ?_
    refine zx_if_eq 103 (q := 98) dd_Ou_begin_95 rfl (by decide) (fun hc7 => absurd hc7 (by decide)) (fun hc7 => ?_)
    refine zx_bipush (nI 50) (q := 100) dd_Ou_begin_98 rfl (by decide) ?_
    refine zx_goto 106 dd_Ou_begin_100 (by decide) ?_
    refine zx_i2l (q := 107) dd_Ou_begin_106 rfl ?_
    refine zx_topl (nI_l (by decide)) ?_
    refine zx_ladd (q := 108) dd_Ou_begin_107 rfl ?_
    refine zx_put (q := 111) dd_Ou_begin_108 rfl fl_Ou_17 (at_f6 hf) rfl rfl (Nat.le_of_ble_eq_true rfl) (up_f6 hf) ?_
    exact zx_vret dd_Ou_begin_111 rfl (hq _ _ (by first | (simp [pc_obegin, eq_true hc1, he6]; done) | (clear hq; simp_all [pc_obegin]; done)) hw6)
set_option maxRecDepth 100000 in
set_option maxHeartbeats 4000000 in
theorem lo_Ou_takeGrant {E : zxE} {b f n : Nat} {F : Nat → zFn} {D : zMd} {ad : Int32} {bz : Bool} {nt : Nat → Int32} {o : Nat} {la : zMs} {xs : Nat → zIn} {de st : Int32} {nm hd : Int64} {Q : Option Value → zxH → Nat → Prop} {ph re tg gp sz nx num : Int32} {se du : Int64} {l : Nat} {fi : Int32} (hf : f < 5) (hl : l < 900) : ∀ (k a : Nat) (B : zB), B.2.2.2.1 ≤ 48 → k = l + 1 - a → a < 1000 → (∀ B', pc_sends (nI f) ad (ph, re, tg, gp, sz, se, nx, du) k a B = B' → B'.2.2.2.1 ≤ 48 → Q none (zs b (B', foc F f (ad, bz, nt, o, la, (nI 2, re, tg, gp, sz, se, nx, B'.2.2.2.2.2 + lN 1250), xs, de, st, nm, hd), D)) n) → zx_X E mi_Ou_takeGrant (zx_Y E mi_Ou_takeGrant Q) 44 [some (.ref (fa b f 6)), some (.int num), some (.int fi), some (.int (nI l)), some (.int (nI a))] [] (zs b (B, foc F f (ad, bz, nt, o, la, (ph, re, tg, gp, sz, se, nx, du), xs, de, st, nm, hd), D)) n 0 0 := by
  intro k
  induction k with
  | zero =>
    intro a B hw h1 h2 hq
    have hq := hq B rfl hw
    obtain ⟨ids, con, snd, cnt, ovf, now⟩ := B
    refine zx_iload (q := 46) dd_Ou_takeGrant_44 rfl rfl ?_
    refine zx_iload_n (q := 47) dd_Ou_takeGrant_46 rfl rfl ?_
    refine zx_icmp_gt 62 (q := 50) dd_Ou_takeGrant_47 rfl (by decide) (fun hc1 => ?_) (fun hc1 => absurd ((nI_ltI (by omega) (by omega)).mpr (by omega)) hc1)
    refine zx_aload_n (q := 63) dd_Ou_takeGrant_62 rfl rfl ?_
    refine zx_iconst (nI 2) (q := 64) dd_Ou_takeGrant_63 rfl (by decide) ?_
    refine zx_put (q := 67) dd_Ou_takeGrant_64 rfl fl_Ou_9 (at_f6 hf) rfl rfl (Nat.le_of_ble_eq_true rfl) (up_f6 hf) ?_
    refine zx_aload_n (q := 68) dd_Ou_takeGrant_67 rfl rfl ?_
    refine zx_aload_n (q := 69) dd_Ou_takeGrant_68 rfl rfl ?_
    refine zx_get (q := 72) dd_Ou_takeGrant_69 rfl fl_Ou_21 (at_f6 hf) rfl ?_
    refine zx_get (q := 75) dd_Ou_takeGrant_72 rfl fl_Ou_55 at_b1 rfl ?_
    refine zx_ldc2 _ (q := 78) dd_Ou_takeGrant_75 rfl kk_Ou_77 ?_
    refine zx_ladd (q := 79) dd_Ou_takeGrant_78 rfl ?_
    refine zx_put (q := 82) dd_Ou_takeGrant_79 rfl fl_Ou_17 (at_f6 hf) rfl rfl (Nat.le_of_ble_eq_true rfl) (up_f6 hf) ?_
    exact zx_vret dd_Ou_takeGrant_82 rfl hq
  | succ k ih =>
    intro a B hw h1 h2 hq
    refine zx_iload (q := 46) dd_Ou_takeGrant_44 rfl rfl ?_
    refine zx_iload_n (q := 47) dd_Ou_takeGrant_46 rfl rfl ?_
    refine zx_icmp_gt 62 (q := 50) dd_Ou_takeGrant_47 rfl (by decide) (fun hc1 => absurd hc1 (fun z => absurd ((nI_ltI (by omega) (by omega)).mp z) (by omega))) (fun hc1 => ?_)
    refine zx_aload_n (q := 51) dd_Ou_takeGrant_50 rfl rfl ?_
    refine zx_iload (q := 53) dd_Ou_takeGrant_51 rfl rfl ?_
    refine zx_cV1v (q := 56) dd_Ou_takeGrant_53 rfl cv_Ou_takeGrant_73 ⟨rfl, rfl⟩ (at_f6 hf) rfl rfl (Nat.le_of_ble_eq_true rfl) ⟨Nat.zero_le _, Nat.zero_le _⟩ (ok_Ou_sendPacket hf hw fun B1 he1 hw1 => ⟨rfl, ?_⟩)
    refine zx_iincN_4 (q := 59) dd_Ou_takeGrant_56 rfl (by decide) rfl ?_
    refine zx_goto 44 dd_Ou_takeGrant_59 (by decide) ?_
    exact ih (a + 1) B1 hw1 (by omega) (by omega) (fun B' h => hq B' (by rw [← h, ← he1]; rfl))
set_option maxRecDepth 100000 in
set_option maxHeartbeats 4000000 in
theorem ok_Ou_takeGrant {E : zxE} {b f n : Nat} {F : Nat → zFn} {D : zMd} {B : zB} {ad : Int32} {bz : Bool} {nt : Nat → Int32} {o : Nat} {la : zMs} {ou : zOu} {xs : Nat → zIn} {de st : Int32} {nm hd : Int64} {Q : Option Value → zxH → Nat → Prop} {c a s : Nat} (hf : f < 5) (hw : B.2.2.2.1 ≤ 48) (hc : c < 256) (ha : a < 256) (hs9 : s < 256) (hs : pc_pk ou.2.2.2.2.1 = nI s) (hq : ∀ B' x', pc_takeGrant B (nI f) ad ou c a s = (B', x') → B'.2.2.2.1 ≤ 48 → Q none (zs b (B', foc F f (ad, bz, nt, o, la, x', xs, de, st, nm, hd), D)) n) : zx_Ok E my_Ou_takeGrant mi_Ou_takeGrant [.ref (fa b f 6), .int (nI c), .int (nI a)] (zs b (B, foc F f (ad, bz, nt, o, la, ou, xs, de, st, nm, hd), D)) n Q := by
  obtain ⟨ids, con, snd, cnt, ovf, now⟩ := B
  obtain ⟨ph, re, tg, gp, sz, se, nx, du⟩ := ou
  have hs : pc_pk sz = nI s := hs
  refine zx_start [some (.ref (fa b f 6)), some (.int (nI c)), some (.int (nI a)), none, none] (by decide) rfl rfl (Nat.le_of_ble_eq_true rfl) rfl ?_
  refine zx_iload_n (q := 1) dd_Ou_takeGrant_0 rfl rfl ?_
  refine zx_if_ne 25 (q := 4) dd_Ou_takeGrant_1 rfl (by decide) (fun hc1 => ?_) (fun hc1 => ?_)
  · skip
    replace hc1 : ¬ c = 0 := fun z => hc1 (by subst z; decide)
    refine zx_iload_n (q := 26) dd_Ou_takeGrant_25 rfl rfl ?_
    refine zx_iload_n (q := 27) dd_Ou_takeGrant_26 rfl rfl ?_
    refine zx_iadd (q := 28) dd_Ou_takeGrant_27 rfl ?_
    refine zx_topi (nI_add _ _) ?_
    refine zx_iconst (nI 1) (q := 29) dd_Ou_takeGrant_28 rfl (by decide) ?_
    refine zx_isub (q := 30) dd_Ou_takeGrant_29 rfl ?_
    refine zx_topi (pk_sub (by omega)) ?_
    refine zx_aload_n (q := 31) dd_Ou_takeGrant_30 rfl rfl ?_
    refine zx_get (q := 34) dd_Ou_takeGrant_31 rfl fl_Ou_35 (at_f6 hf) rfl ?_
    refine zx_cN1i (q := 37) dd_Ou_takeGrant_34 rfl cs_Ou_takeGrant_63 ⟨rfl, rfl⟩ (Nat.le_of_ble_eq_true rfl) ⟨Nat.zero_le _, Nat.zero_le _⟩ (ok_Ab_packetsFor ⟨_, rfl, ?_⟩)
    refine zx_mmin (q := 40) dd_Ou_takeGrant_37 rfl cw_Ou_67 (by decide) (Nat.le_of_ble_eq_true rfl) ⟨Nat.zero_le _, Nat.zero_le _⟩ ?_
    rw [hs]
    rw [show (if nI s < nI (a + c - 1) then nI s else nI (a + c - 1)) = nI (min (a + c - 1) s) from by
      by_cases g : s < a + c - 1
      · rw [if_pos ((nI_ltI (by omega) (by omega)).mpr g), Nat.min_eq_right (by omega)]
      · rw [if_neg (fun z => g ((nI_ltI (by omega) (by omega)).mp z)), Nat.min_eq_left (by omega)]]
    refine zx_istore_3 (q := 41) dd_Ou_takeGrant_40 rfl (by decide) rfl ?_
    refine zx_iload_n (q := 42) dd_Ou_takeGrant_41 rfl rfl ?_
    refine zx_istore_4 (q := 44) dd_Ou_takeGrant_42 rfl (by decide) rfl ?_
    exact lo_Ou_takeGrant (l := min (a + c - 1) s) hf (by omega) (pc_grantN a c s) a _ hw rfl (by omega) (fun B' h1 h2 => hq _ _ (by simp [pc_takeGrant, hc1, h1]) h2)
  · skip
    replace hc1 : c = 0 := (nI_eq (by omega) (by decide)).mp hc1
    refine zx_aload_n (q := 5) dd_Ou_takeGrant_4 rfl rfl ?_
    refine zx_iconst (nI 3) (q := 6) dd_Ou_takeGrant_5 rfl (by decide) ?_
    refine zx_put (q := 9) dd_Ou_takeGrant_6 rfl fl_Ou_9 (at_f6 hf) rfl rfl (Nat.le_of_ble_eq_true rfl) (up_f6 hf) ?_
    refine zx_aload_n (q := 10) dd_Ou_takeGrant_9 rfl rfl ?_
    refine zx_aload_n (q := 11) dd_Ou_takeGrant_10 rfl rfl ?_
    refine zx_get (q := 14) dd_Ou_takeGrant_11 rfl fl_Ou_21 (at_f6 hf) rfl ?_
    refine zx_get (q := 17) dd_Ou_takeGrant_14 rfl fl_Ou_55 at_b1 rfl ?_
    refine zx_ldc2 _ (q := 20) dd_Ou_takeGrant_17 rfl kk_Ou_61 ?_
    refine zx_ladd (q := 21) dd_Ou_takeGrant_20 rfl ?_
    refine zx_put (q := 24) dd_Ou_takeGrant_21 rfl fl_Ou_17 (at_f6 hf) rfl rfl (Nat.le_of_ble_eq_true rfl) (up_f6 hf) ?_
    exact zx_vret dd_Ou_takeGrant_24 rfl (hq _ _ (by simp [pc_takeGrant, hc1]) hw)
