set_option maxRecDepth 100000 in
set_option maxHeartbeats 4000000 in
theorem ok_Fu_roomForIncoming {E : zxE} {b f n : Nat} {F : Nat → zFn} {D : zMd} {B : zB} {ad : Int32} {bz : Bool} {nt : Nat → Int32} {o : Nat} {la : zMs} {ou : zOu} {x0 x1 : zIn} {de st : Int32} {nm hd : Int64} {Q : Option Value → zxH → Nat → Prop} (hf : f < 5) (ho : o ≤ 1) (hq : ∀ ad' bz' nt' o' la' ou' x0' x1' de' st' nm' hd', pf_room (ad, bz, nt, o, la, ou, x0, x1, de, st, nm, hd) = (ad', bz', nt', o', la', ou', x0', x1', de', st', nm', hd') → o' ≤ 1 → Q (some (.ref (fa b f (7 + 3 * (1 - o'))))) (zs b (B, foc F f (ad', bz', nt', o', la', ou', tw o' x0' x1', de', st', nm', hd'), D)) n) : zx_Ok E my_Fu_roomForIncoming mi_Fu_roomForIncoming [.ref (fa b f 0)] (zs b (B, foc F f (ad, bz, nt, o, la, ou, tw o x0 x1, de, st, nm, hd), D)) n Q := by
  obtain ⟨⟨pk0, so0, gr0, si0, ta0⟩, op0, he0, ex0, lt0, ak0, du0⟩ := x0
  obtain ⟨⟨pk1, so1, gr1, si1, ta1⟩, op1, he1, ex1, lt1, ak1, du1⟩ := x1
  refine zx_start [some (.ref (fa b f 0)), none] (by decide) rfl rfl (Nat.le_of_ble_eq_true rfl) rfl ?_
  refine zx_aload_n (q := 1) dd_Fu_roomForIncoming_0 rfl rfl ?_
  refine zx_get (q := 4) dd_Fu_roomForIncoming_1 rfl fl_Fu_17 (at_f0 hf) rfl ?_
  refine zx_iconst (nI 1) (q := 5) dd_Fu_roomForIncoming_4 rfl (by decide) ?_
  refine zx_aald (q := 6) dd_Fu_roomForIncoming_5 rfl (fun _ => rfl) (at_f3 hf) rfl (by decide) (by decide) ord_1 ?_
  refine zx_get (q := 9) dd_Fu_roomForIncoming_6 rfl fl_Fu_88 (at_t1 hf ho) rfl ?_
  refine zx_if_eq 38 (q := 12) dd_Fu_roomForIncoming_9 rfl (by decide) (fun hc1 => ?_) (fun hc1 => ?_)
  · skip
    replace hc1 := zb_0.mp hc1
    refine zx_aload_n (q := 39) dd_Fu_roomForIncoming_38 rfl rfl ?_
    refine zx_get (q := 42) dd_Fu_roomForIncoming_39 rfl fl_Fu_17 (at_f0 hf) rfl ?_
    refine zx_iconst (nI 1) (q := 43) dd_Fu_roomForIncoming_42 rfl (by decide) ?_
    refine zx_aald (q := 44) dd_Fu_roomForIncoming_43 rfl (fun _ => rfl) (at_f3 hf) rfl (by decide) (by decide) ord_1 ?_
    exact zx_aret dd_Fu_roomForIncoming_44 rfl (hq _ _ _ _ _ _ _ _ _ _ _ _ (by first | (simp [pf_room, hc1]; done) | (clear hq; simp_all [pf_room]; done)) (by omega))
  · skip
    replace hc1 := zb_n0.mp hc1
    refine zx_aload_n (q := 13) dd_Fu_roomForIncoming_12 rfl rfl ?_
    refine zx_get (q := 16) dd_Fu_roomForIncoming_13 rfl fl_Fu_17 (at_f0 hf) rfl ?_
    refine zx_iconst (nI 0) (q := 17) dd_Fu_roomForIncoming_16 rfl (by decide) ?_
    refine zx_aald (q := 18) dd_Fu_roomForIncoming_17 rfl (fun _ => rfl) (at_f3 hf) rfl (by decide) (by decide) ord_0 ?_
    refine zx_astore_1 (q := 19) dd_Fu_roomForIncoming_18 rfl (by decide) rfl ?_
    refine zx_aload_n (q := 20) dd_Fu_roomForIncoming_19 rfl rfl ?_
    refine zx_get (q := 23) dd_Fu_roomForIncoming_20 rfl fl_Fu_17 (at_f0 hf) rfl ?_
    refine zx_iconst (nI 0) (q := 24) dd_Fu_roomForIncoming_23 rfl (by decide) ?_
    refine zx_aload_n (q := 25) dd_Fu_roomForIncoming_24 rfl rfl ?_
    refine zx_get (q := 28) dd_Fu_roomForIncoming_25 rfl fl_Fu_17 (at_f0 hf) rfl ?_
    refine zx_iconst (nI 1) (q := 29) dd_Fu_roomForIncoming_28 rfl (by decide) ?_
    refine zx_aald (q := 30) dd_Fu_roomForIncoming_29 rfl (fun _ => rfl) (at_f3 hf) rfl (by decide) (by decide) ord_1 ?_
    refine zx_aast (q := 31) dd_Fu_roomForIncoming_30 rfl (fun _ => rfl) (at_f3 hf) (at_t1 hf ho) rfl rfl rfl (by decide) (by decide) rfl ?_
    refine zx_aload_n (q := 32) dd_Fu_roomForIncoming_31 rfl rfl ?_
    refine zx_get (q := 35) dd_Fu_roomForIncoming_32 rfl fl_Fu_17 (up_oth (by unfold fa; omega) (at_f0 hf)) rfl ?_
    refine zx_iconst (nI 1) (q := 36) dd_Fu_roomForIncoming_35 rfl (by decide) ?_
    refine zx_aload_n (q := 37) dd_Fu_roomForIncoming_36 rfl rfl ?_
    refine zx_aast (q := 38) dd_Fu_roomForIncoming_37 rfl (fun _ => rfl) up_same (up_oth (by unfold fa; omega) (at_t0 hf ho)) rfl rfl rfl (by decide) (by decide) (room_sw hf ho) ?_
    refine zx_aload_n (q := 39) dd_Fu_roomForIncoming_38 rfl rfl ?_
    refine zx_get (q := 42) dd_Fu_roomForIncoming_39 rfl fl_Fu_17 (at_f0 hf) rfl ?_
    refine zx_iconst (nI 1) (q := 43) dd_Fu_roomForIncoming_42 rfl (by decide) ?_
    refine zx_aald (q := 44) dd_Fu_roomForIncoming_43 rfl (fun _ => rfl) (at_f3 hf) rfl (by decide) (by decide) ord_1 ?_
    exact zx_aret dd_Fu_roomForIncoming_44 rfl (hq _ _ _ _ _ _ _ _ _ _ _ _ (by first | (simp [pf_room, hc1]; done) | (clear hq; simp_all [pf_room]; done)) (by omega))
set_option maxRecDepth 100000 in
set_option maxHeartbeats 4000000 in
theorem ok_Fu_abortIncoming {E : zxE} {b f n : Nat} {F : Nat → zFn} {D : zMd} {B : zB} {ad : Int32} {bz : Bool} {nt : Nat → Int32} {o : Nat} {la : zMs} {ou : zOu} {x0 x1 : zIn} {de st : Int32} {nm hd : Int64} {Q : Option Value → zxH → Nat → Prop} {s g : Int32} (hf : f < 5) (ho : o ≤ 1) (hq : ∀ ad' bz' nt' o' la' ou' x0' x1' de' st' nm' hd', pf_abort (ad, bz, nt, o, la, ou, x0, x1, de, st, nm, hd) s g = (ad', bz', nt', o', la', ou', x0', x1', de', st', nm', hd') → Q none (zs b (B, foc F f (ad', bz', nt', o', la', ou', tw o' x0' x1', de', st', nm', hd'), D)) n) : zx_Ok E my_Fu_abortIncoming mi_Fu_abortIncoming [.ref (fa b f 0), .int s, .int g] (zs b (B, foc F f (ad, bz, nt, o, la, ou, tw o x0 x1, de, st, nm, hd), D)) n Q := by
  obtain ⟨⟨pk0, so0, gr0, si0, ta0⟩, op0, he0, ex0, lt0, ak0, du0⟩ := x0
  obtain ⟨⟨pk1, so1, gr1, si1, ta1⟩, op1, he1, ex1, lt1, ak1, du1⟩ := x1
  refine zx_start [some (.ref (fa b f 0)), some (.int s), some (.int g), none] (by decide) rfl rfl (Nat.le_of_ble_eq_true rfl) rfl ?_
  refine zx_iconst (nI 0) (q := 1) dd_Fu_abortIncoming_0 rfl (by decide) ?_
  refine zx_istore_3 (q := 2) dd_Fu_abortIncoming_1 rfl (by decide) rfl ?_
  refine zx_iload_n (q := 3) dd_Fu_abortIncoming_2 rfl rfl ?_
  refine zx_iconst (nI 2) (q := 4) dd_Fu_abortIncoming_3 rfl (by decide) ?_
  refine zx_icmp_ge 52 (q := 7) dd_Fu_abortIncoming_4 rfl (by decide) (fun hc1 => absurd hc1 (by decide)) (fun hc1 => ?_)
  refine zx_aload_n (q := 8) dd_Fu_abortIncoming_7 rfl rfl ?_
  refine zx_get (q := 11) dd_Fu_abortIncoming_8 rfl fl_Fu_17 (at_f0 hf) rfl ?_
  refine zx_iload_n (q := 12) dd_Fu_abortIncoming_11 rfl rfl ?_
  refine zx_aald (q := 13) dd_Fu_abortIncoming_12 rfl (fun _ => rfl) (at_f3 hf) rfl (by decide) (by decide) ord_0 ?_
  refine zx_iload_n (q := 14) dd_Fu_abortIncoming_13 rfl rfl ?_
  refine zx_iconst (nI 0) (q := 15) dd_Fu_abortIncoming_14 rfl (by decide) ?_
  refine zx_topi zb_f ?_
  refine zx_cV2i (q := 18) dd_Fu_abortIncoming_15 rfl cv_Fu_abortIncoming_172 ⟨rfl, rfl⟩ (at_t0 hf ho) rfl rfl (Nat.le_of_ble_eq_true rfl) ⟨Nat.zero_le _, Nat.zero_le _⟩ (ok0_In_isFrom hf ho fun r1 he1 => ⟨_, rfl, ?_⟩)
  refine zx_if_eq 46 (q := 21) dd_Fu_abortIncoming_18 rfl (by decide) (fun hc2 => ?_) (fun hc2 => ?_)
  · skip
    replace hc2 := zb_0.mp hc2
    refine zx_iincC_3 1 (q := 49) dd_Fu_abortIncoming_46 rfl rfl (by decide) rfl ?_
    refine zx_goto 2 dd_Fu_abortIncoming_49 (by decide) ?_
    refine zx_iload_n (q := 3) dd_Fu_abortIncoming_2 rfl rfl ?_
    refine zx_iconst (nI 2) (q := 4) dd_Fu_abortIncoming_3 rfl (by decide) ?_
    refine zx_icmp_ge 52 (q := 7) dd_Fu_abortIncoming_4 rfl (by decide) (fun hc3 => absurd hc3 (by decide)) (fun hc3 => ?_)
    refine zx_aload_n (q := 8) dd_Fu_abortIncoming_7 rfl rfl ?_
    refine zx_get (q := 11) dd_Fu_abortIncoming_8 rfl fl_Fu_17 (at_f0 hf) rfl ?_
    refine zx_iload_n (q := 12) dd_Fu_abortIncoming_11 rfl rfl ?_
    refine zx_aald (q := 13) dd_Fu_abortIncoming_12 rfl (fun _ => rfl) (at_f3 hf) rfl (by decide) (by decide) ord_1 ?_
    refine zx_iload_n (q := 14) dd_Fu_abortIncoming_13 rfl rfl ?_
    refine zx_iconst (nI 0) (q := 15) dd_Fu_abortIncoming_14 rfl (by decide) ?_
    refine zx_topi zb_f ?_
    refine zx_cV2i (q := 18) dd_Fu_abortIncoming_15 rfl cv_Fu_abortIncoming_172 ⟨rfl, rfl⟩ (at_t1 hf ho) rfl rfl (Nat.le_of_ble_eq_true rfl) ⟨Nat.zero_le _, Nat.zero_le _⟩ (ok1_In_isFrom hf ho fun r2 he2 => ⟨_, rfl, ?_⟩)
    refine zx_if_eq 46 (q := 21) dd_Fu_abortIncoming_18 rfl (by decide) (fun hc4 => ?_) (fun hc4 => ?_)
    · skip
      replace hc4 := zb_0.mp hc4
      refine zx_iincC_3 2 (q := 49) dd_Fu_abortIncoming_46 rfl rfl (by decide) rfl ?_
      refine zx_goto 2 dd_Fu_abortIncoming_49 (by decide) ?_
      refine zx_iload_n (q := 3) dd_Fu_abortIncoming_2 rfl rfl ?_
      refine zx_iconst (nI 2) (q := 4) dd_Fu_abortIncoming_3 rfl (by decide) ?_
      refine zx_icmp_ge 52 (q := 7) dd_Fu_abortIncoming_4 rfl (by decide) (fun hc5 => ?_) (fun hc5 => absurd (by decide) hc5)
      exact zx_vret dd_Fu_abortIncoming_52 rfl (hq _ _ _ _ _ _ _ _ _ _ _ _ (by first | (simp [pf_abort, he1, hc2, he2, hc4]; done) | (clear hq; simp_all [pf_abort]; done)))
    · skip
      replace hc4 := zb_n0.mp hc4
      refine zx_aload_n (q := 22) dd_Fu_abortIncoming_21 rfl rfl ?_
      refine zx_get (q := 25) dd_Fu_abortIncoming_22 rfl fl_Fu_17 (at_f0 hf) rfl ?_
      refine zx_iload_n (q := 26) dd_Fu_abortIncoming_25 rfl rfl ?_
      refine zx_aald (q := 27) dd_Fu_abortIncoming_26 rfl (fun _ => rfl) (at_f3 hf) rfl (by decide) (by decide) ord_1 ?_
      refine zx_get (q := 30) dd_Fu_abortIncoming_27 rfl fl_Fu_192 (at_t1 hf ho) rfl ?_
      refine zx_get (q := 33) dd_Fu_abortIncoming_30 rfl fl_Fu_195 (at_t1m hf ho) rfl ?_
      refine zx_iload_n (q := 34) dd_Fu_abortIncoming_33 rfl rfl ?_
      refine zx_icmp_ne 46 (q := 37) dd_Fu_abortIncoming_34 rfl (by decide) (fun hc6 => ?_) (fun hc6 => ?_)
      · skip
        refine zx_iincC_3 2 (q := 49) dd_Fu_abortIncoming_46 rfl rfl (by decide) rfl ?_
        refine zx_goto 2 dd_Fu_abortIncoming_49 (by decide) ?_
        refine zx_iload_n (q := 3) dd_Fu_abortIncoming_2 rfl rfl ?_
        refine zx_iconst (nI 2) (q := 4) dd_Fu_abortIncoming_3 rfl (by decide) ?_
        refine zx_icmp_ge 52 (q := 7) dd_Fu_abortIncoming_4 rfl (by decide) (fun hc7 => ?_) (fun hc7 => absurd (by decide) hc7)
        exact zx_vret dd_Fu_abortIncoming_52 rfl (hq _ _ _ _ _ _ _ _ _ _ _ _ (by first | (simp [pf_abort, he1, hc2, he2, hc4, hc6]; done) | (clear hq; simp_all [pf_abort]; done)))
      · skip
        refine zx_aload_n (q := 38) dd_Fu_abortIncoming_37 rfl rfl ?_
        refine zx_get (q := 41) dd_Fu_abortIncoming_38 rfl fl_Fu_17 (at_f0 hf) rfl ?_
        refine zx_iload_n (q := 42) dd_Fu_abortIncoming_41 rfl rfl ?_
        refine zx_aald (q := 43) dd_Fu_abortIncoming_42 rfl (fun _ => rfl) (at_f3 hf) rfl (by decide) (by decide) ord_1 ?_
        refine zx_cV0v (q := 46) dd_Fu_abortIncoming_43 rfl cv_Fu_abortIncoming_151 ⟨rfl, rfl⟩ (at_t1 hf ho) rfl rfl (Nat.le_of_ble_eq_true rfl) ⟨Nat.zero_le _, Nat.zero_le _⟩ (ok1_In_end hf ho ⟨rfl, ?_⟩)
        refine zx_iincC_3 2 (q := 49) dd_Fu_abortIncoming_46 rfl rfl (by decide) rfl ?_
        refine zx_goto 2 dd_Fu_abortIncoming_49 (by decide) ?_
        refine zx_iload_n (q := 3) dd_Fu_abortIncoming_2 rfl rfl ?_
        refine zx_iconst (nI 2) (q := 4) dd_Fu_abortIncoming_3 rfl (by decide) ?_
        refine zx_icmp_ge 52 (q := 7) dd_Fu_abortIncoming_4 rfl (by decide) (fun hc8 => ?_) (fun hc8 => absurd (by decide) hc8)
        exact zx_vret dd_Fu_abortIncoming_52 rfl (hq _ _ _ _ _ _ _ _ _ _ _ _ (by first | (simp [pf_abort, he1, hc2, he2, hc4, eq_true hc6]; done) | (clear hq; simp_all [pf_abort]; done)))
  · skip
    replace hc2 := zb_n0.mp hc2
    refine zx_aload_n (q := 22) dd_Fu_abortIncoming_21 rfl rfl ?_
    refine zx_get (q := 25) dd_Fu_abortIncoming_22 rfl fl_Fu_17 (at_f0 hf) rfl ?_
    refine zx_iload_n (q := 26) dd_Fu_abortIncoming_25 rfl rfl ?_
    refine zx_aald (q := 27) dd_Fu_abortIncoming_26 rfl (fun _ => rfl) (at_f3 hf) rfl (by decide) (by decide) ord_0 ?_
    refine zx_get (q := 30) dd_Fu_abortIncoming_27 rfl fl_Fu_192 (at_t0 hf ho) rfl ?_
    refine zx_get (q := 33) dd_Fu_abortIncoming_30 rfl fl_Fu_195 (at_t0m hf ho) rfl ?_
    refine zx_iload_n (q := 34) dd_Fu_abortIncoming_33 rfl rfl ?_
    refine zx_icmp_ne 46 (q := 37) dd_Fu_abortIncoming_34 rfl (by decide) (fun hc9 => ?_) (fun hc9 => ?_)
    · skip
      refine zx_iincC_3 1 (q := 49) dd_Fu_abortIncoming_46 rfl rfl (by decide) rfl ?_
      refine zx_goto 2 dd_Fu_abortIncoming_49 (by decide) ?_
      refine zx_iload_n (q := 3) dd_Fu_abortIncoming_2 rfl rfl ?_
      refine zx_iconst (nI 2) (q := 4) dd_Fu_abortIncoming_3 rfl (by decide) ?_
      refine zx_icmp_ge 52 (q := 7) dd_Fu_abortIncoming_4 rfl (by decide) (fun hc10 => absurd hc10 (by decide)) (fun hc10 => ?_)
      refine zx_aload_n (q := 8) dd_Fu_abortIncoming_7 rfl rfl ?_
      refine zx_get (q := 11) dd_Fu_abortIncoming_8 rfl fl_Fu_17 (at_f0 hf) rfl ?_
      refine zx_iload_n (q := 12) dd_Fu_abortIncoming_11 rfl rfl ?_
      refine zx_aald (q := 13) dd_Fu_abortIncoming_12 rfl (fun _ => rfl) (at_f3 hf) rfl (by decide) (by decide) ord_1 ?_
      refine zx_iload_n (q := 14) dd_Fu_abortIncoming_13 rfl rfl ?_
      refine zx_iconst (nI 0) (q := 15) dd_Fu_abortIncoming_14 rfl (by decide) ?_
      refine zx_topi zb_f ?_
      refine zx_cV2i (q := 18) dd_Fu_abortIncoming_15 rfl cv_Fu_abortIncoming_172 ⟨rfl, rfl⟩ (at_t1 hf ho) rfl rfl (Nat.le_of_ble_eq_true rfl) ⟨Nat.zero_le _, Nat.zero_le _⟩ (ok1_In_isFrom hf ho fun r3 he3 => ⟨_, rfl, ?_⟩)
      refine zx_if_eq 46 (q := 21) dd_Fu_abortIncoming_18 rfl (by decide) (fun hc11 => ?_) (fun hc11 => ?_)
      · skip
        replace hc11 := zb_0.mp hc11
        refine zx_iincC_3 2 (q := 49) dd_Fu_abortIncoming_46 rfl rfl (by decide) rfl ?_
        refine zx_goto 2 dd_Fu_abortIncoming_49 (by decide) ?_
        refine zx_iload_n (q := 3) dd_Fu_abortIncoming_2 rfl rfl ?_
        refine zx_iconst (nI 2) (q := 4) dd_Fu_abortIncoming_3 rfl (by decide) ?_
        refine zx_icmp_ge 52 (q := 7) dd_Fu_abortIncoming_4 rfl (by decide) (fun hc12 => ?_) (fun hc12 => absurd (by decide) hc12)
        exact zx_vret dd_Fu_abortIncoming_52 rfl (hq _ _ _ _ _ _ _ _ _ _ _ _ (by first | (simp [pf_abort, he1, hc2, hc9, he3, hc11]; done) | (clear hq; simp_all [pf_abort]; done)))
      · skip
        replace hc11 := zb_n0.mp hc11
        refine zx_aload_n (q := 22) dd_Fu_abortIncoming_21 rfl rfl ?_
        refine zx_get (q := 25) dd_Fu_abortIncoming_22 rfl fl_Fu_17 (at_f0 hf) rfl ?_
        refine zx_iload_n (q := 26) dd_Fu_abortIncoming_25 rfl rfl ?_
        refine zx_aald (q := 27) dd_Fu_abortIncoming_26 rfl (fun _ => rfl) (at_f3 hf) rfl (by decide) (by decide) ord_1 ?_
        refine zx_get (q := 30) dd_Fu_abortIncoming_27 rfl fl_Fu_192 (at_t1 hf ho) rfl ?_
        refine zx_get (q := 33) dd_Fu_abortIncoming_30 rfl fl_Fu_195 (at_t1m hf ho) rfl ?_
        refine zx_iload_n (q := 34) dd_Fu_abortIncoming_33 rfl rfl ?_
        refine zx_icmp_ne 46 (q := 37) dd_Fu_abortIncoming_34 rfl (by decide) (fun hc13 => ?_) (fun hc13 => ?_)
        · skip
          refine zx_iincC_3 2 (q := 49) dd_Fu_abortIncoming_46 rfl rfl (by decide) rfl ?_
          refine zx_goto 2 dd_Fu_abortIncoming_49 (by decide) ?_
          refine zx_iload_n (q := 3) dd_Fu_abortIncoming_2 rfl rfl ?_
          refine zx_iconst (nI 2) (q := 4) dd_Fu_abortIncoming_3 rfl (by decide) ?_
          refine zx_icmp_ge 52 (q := 7) dd_Fu_abortIncoming_4 rfl (by decide) (fun hc14 => ?_) (fun hc14 => absurd (by decide) hc14)
          exact zx_vret dd_Fu_abortIncoming_52 rfl (hq _ _ _ _ _ _ _ _ _ _ _ _ (by first | (simp [pf_abort, he1, hc2, hc9, he3, hc11, hc13]; done) | (clear hq; simp_all [pf_abort]; done)))
        · skip
          refine zx_aload_n (q := 38) dd_Fu_abortIncoming_37 rfl rfl ?_
          refine zx_get (q := 41) dd_Fu_abortIncoming_38 rfl fl_Fu_17 (at_f0 hf) rfl ?_
          refine zx_iload_n (q := 42) dd_Fu_abortIncoming_41 rfl rfl ?_
          refine zx_aald (q := 43) dd_Fu_abortIncoming_42 rfl (fun _ => rfl) (at_f3 hf) rfl (by decide) (by decide) ord_1 ?_
          refine zx_cV0v (q := 46) dd_Fu_abortIncoming_43 rfl cv_Fu_abortIncoming_151 ⟨rfl, rfl⟩ (at_t1 hf ho) rfl rfl (Nat.le_of_ble_eq_true rfl) ⟨Nat.zero_le _, Nat.zero_le _⟩ (ok1_In_end hf ho ⟨rfl, ?_⟩)
          refine zx_iincC_3 2 (q := 49) dd_Fu_abortIncoming_46 rfl rfl (by decide) rfl ?_
          refine zx_goto 2 dd_Fu_abortIncoming_49 (by decide) ?_
          refine zx_iload_n (q := 3) dd_Fu_abortIncoming_2 rfl rfl ?_
          refine zx_iconst (nI 2) (q := 4) dd_Fu_abortIncoming_3 rfl (by decide) ?_
          refine zx_icmp_ge 52 (q := 7) dd_Fu_abortIncoming_4 rfl (by decide) (fun hc15 => ?_) (fun hc15 => absurd (by decide) hc15)
          exact zx_vret dd_Fu_abortIncoming_52 rfl (hq _ _ _ _ _ _ _ _ _ _ _ _ (by first | (simp [pf_abort, he1, hc2, hc9, he3, hc11, eq_true hc13]; done) | (clear hq; simp_all [pf_abort]; done)))
    · skip
      refine zx_aload_n (q := 38) dd_Fu_abortIncoming_37 rfl rfl ?_
      refine zx_get (q := 41) dd_Fu_abortIncoming_38 rfl fl_Fu_17 (at_f0 hf) rfl ?_
      refine zx_iload_n (q := 42) dd_Fu_abortIncoming_41 rfl rfl ?_
      refine zx_aald (q := 43) dd_Fu_abortIncoming_42 rfl (fun _ => rfl) (at_f3 hf) rfl (by decide) (by decide) ord_0 ?_
      refine zx_cV0v (q := 46) dd_Fu_abortIncoming_43 rfl cv_Fu_abortIncoming_151 ⟨rfl, rfl⟩ (at_t0 hf ho) rfl rfl (Nat.le_of_ble_eq_true rfl) ⟨Nat.zero_le _, Nat.zero_le _⟩ (ok0_In_end hf ho ⟨rfl, ?_⟩)
      refine zx_iincC_3 1 (q := 49) dd_Fu_abortIncoming_46 rfl rfl (by decide) rfl ?_
      refine zx_goto 2 dd_Fu_abortIncoming_49 (by decide) ?_
      refine zx_iload_n (q := 3) dd_Fu_abortIncoming_2 rfl rfl ?_
      refine zx_iconst (nI 2) (q := 4) dd_Fu_abortIncoming_3 rfl (by decide) ?_
      refine zx_icmp_ge 52 (q := 7) dd_Fu_abortIncoming_4 rfl (by decide) (fun hc16 => absurd hc16 (by decide)) (fun hc16 => ?_)
      refine zx_aload_n (q := 8) dd_Fu_abortIncoming_7 rfl rfl ?_
      refine zx_get (q := 11) dd_Fu_abortIncoming_8 rfl fl_Fu_17 (at_f0 hf) rfl ?_
      refine zx_iload_n (q := 12) dd_Fu_abortIncoming_11 rfl rfl ?_
      refine zx_aald (q := 13) dd_Fu_abortIncoming_12 rfl (fun _ => rfl) (at_f3 hf) rfl (by decide) (by decide) ord_1 ?_
      refine zx_iload_n (q := 14) dd_Fu_abortIncoming_13 rfl rfl ?_
      refine zx_iconst (nI 0) (q := 15) dd_Fu_abortIncoming_14 rfl (by decide) ?_
      refine zx_topi zb_f ?_
      refine zx_cV2i (q := 18) dd_Fu_abortIncoming_15 rfl cv_Fu_abortIncoming_172 ⟨rfl, rfl⟩ (at_t1 hf ho) rfl rfl (Nat.le_of_ble_eq_true rfl) ⟨Nat.zero_le _, Nat.zero_le _⟩ (ok1_In_isFrom hf ho fun r4 he4 => ⟨_, rfl, ?_⟩)
      refine zx_if_eq 46 (q := 21) dd_Fu_abortIncoming_18 rfl (by decide) (fun hc17 => ?_) (fun hc17 => ?_)
      · skip
        replace hc17 := zb_0.mp hc17
        refine zx_iincC_3 2 (q := 49) dd_Fu_abortIncoming_46 rfl rfl (by decide) rfl ?_
        refine zx_goto 2 dd_Fu_abortIncoming_49 (by decide) ?_
        refine zx_iload_n (q := 3) dd_Fu_abortIncoming_2 rfl rfl ?_
        refine zx_iconst (nI 2) (q := 4) dd_Fu_abortIncoming_3 rfl (by decide) ?_
        refine zx_icmp_ge 52 (q := 7) dd_Fu_abortIncoming_4 rfl (by decide) (fun hc18 => ?_) (fun hc18 => absurd (by decide) hc18)
        exact zx_vret dd_Fu_abortIncoming_52 rfl (hq _ _ _ _ _ _ _ _ _ _ _ _ (by first | (simp [pf_abort, he1, hc2, eq_true hc9, he4, hc17]; done) | (clear hq; simp_all [pf_abort]; done)))
      · skip
        replace hc17 := zb_n0.mp hc17
        refine zx_aload_n (q := 22) dd_Fu_abortIncoming_21 rfl rfl ?_
        refine zx_get (q := 25) dd_Fu_abortIncoming_22 rfl fl_Fu_17 (at_f0 hf) rfl ?_
        refine zx_iload_n (q := 26) dd_Fu_abortIncoming_25 rfl rfl ?_
        refine zx_aald (q := 27) dd_Fu_abortIncoming_26 rfl (fun _ => rfl) (at_f3 hf) rfl (by decide) (by decide) ord_1 ?_
        refine zx_get (q := 30) dd_Fu_abortIncoming_27 rfl fl_Fu_192 (at_t1 hf ho) rfl ?_
        refine zx_get (q := 33) dd_Fu_abortIncoming_30 rfl fl_Fu_195 (at_t1m hf ho) rfl ?_
        refine zx_iload_n (q := 34) dd_Fu_abortIncoming_33 rfl rfl ?_
        refine zx_icmp_ne 46 (q := 37) dd_Fu_abortIncoming_34 rfl (by decide) (fun hc19 => ?_) (fun hc19 => ?_)
        · skip
          refine zx_iincC_3 2 (q := 49) dd_Fu_abortIncoming_46 rfl rfl (by decide) rfl ?_
          refine zx_goto 2 dd_Fu_abortIncoming_49 (by decide) ?_
          refine zx_iload_n (q := 3) dd_Fu_abortIncoming_2 rfl rfl ?_
          refine zx_iconst (nI 2) (q := 4) dd_Fu_abortIncoming_3 rfl (by decide) ?_
          refine zx_icmp_ge 52 (q := 7) dd_Fu_abortIncoming_4 rfl (by decide) (fun hc20 => ?_) (fun hc20 => absurd (by decide) hc20)
          exact zx_vret dd_Fu_abortIncoming_52 rfl (hq _ _ _ _ _ _ _ _ _ _ _ _ (by first | (simp [pf_abort, he1, hc2, eq_true hc9, he4, hc17, hc19]; done) | (clear hq; simp_all [pf_abort]; done)))
        · skip
          refine zx_aload_n (q := 38) dd_Fu_abortIncoming_37 rfl rfl ?_
          refine zx_get (q := 41) dd_Fu_abortIncoming_38 rfl fl_Fu_17 (at_f0 hf) rfl ?_
          refine zx_iload_n (q := 42) dd_Fu_abortIncoming_41 rfl rfl ?_
          refine zx_aald (q := 43) dd_Fu_abortIncoming_42 rfl (fun _ => rfl) (at_f3 hf) rfl (by decide) (by decide) ord_1 ?_
          refine zx_cV0v (q := 46) dd_Fu_abortIncoming_43 rfl cv_Fu_abortIncoming_151 ⟨rfl, rfl⟩ (at_t1 hf ho) rfl rfl (Nat.le_of_ble_eq_true rfl) ⟨Nat.zero_le _, Nat.zero_le _⟩ (ok1_In_end hf ho ⟨rfl, ?_⟩)
          refine zx_iincC_3 2 (q := 49) dd_Fu_abortIncoming_46 rfl rfl (by decide) rfl ?_
          refine zx_goto 2 dd_Fu_abortIncoming_49 (by decide) ?_
          refine zx_iload_n (q := 3) dd_Fu_abortIncoming_2 rfl rfl ?_
          refine zx_iconst (nI 2) (q := 4) dd_Fu_abortIncoming_3 rfl (by decide) ?_
          refine zx_icmp_ge 52 (q := 7) dd_Fu_abortIncoming_4 rfl (by decide) (fun hc21 => ?_) (fun hc21 => absurd (by decide) hc21)
          exact zx_vret dd_Fu_abortIncoming_52 rfl (hq _ _ _ _ _ _ _ _ _ _ _ _ (by first | (simp [pf_abort, he1, hc2, eq_true hc9, he4, hc17, eq_true hc19]; done) | (clear hq; simp_all [pf_abort]; done)))
set_option maxRecDepth 100000 in
set_option maxHeartbeats 4000000 in
theorem ok_Fu_takeOpening {E : zxE} {b f n : Nat} {F : Nat → zFn} {D : zMd} {B : zB} {ad : Int32} {bz : Bool} {nt : Nat → Int32} {o : Nat} {la : zMs} {ou : zOu} {x0 x1 : zIn} {de st : Int32} {nm hd : Int64} {Q : Option Value → zxH → Nat → Prop} {s g : Int32} {d : Int64} {t : Bool} (hf : f < 5) (ho : o ≤ 1) (hw : B.2.2.2.1 ≤ 48) (hq : ∀ B' ad' bz' nt' o' la' ou' x0' x1' de' st' nm' hd', pf_opening B (nI f) (ad, bz, nt, o, la, ou, x0, x1, de, st, nm, hd) s g d t = (B', (ad', bz', nt', o', la', ou', x0', x1', de', st', nm', hd')) → B'.2.2.2.1 ≤ 48 → Q none (zs b (B', foc F f (ad', bz', nt', o', la', ou', tw o' x0' x1', de', st', nm', hd'), D)) n) : zx_Ok E my_Fu_takeOpening mi_Fu_takeOpening [.ref (fa b f 0), .int s, .int g, .long d, .int (zb t)] (zs b (B, foc F f (ad, bz, nt, o, la, ou, tw o x0 x1, de, st, nm, hd), D)) n Q := by
  obtain ⟨ids, con, snd, cnt, ovf, now⟩ := B
  obtain ⟨⟨pk0, so0, gr0, si0, ta0⟩, op0, he0, ex0, lt0, ak0, du0⟩ := x0
  obtain ⟨⟨pk1, so1, gr1, si1, ta1⟩, op1, he1, ex1, lt1, ak1, du1⟩ := x1
  refine zx_start [some (.ref (fa b f 0)), some (.int s), some (.int g), some (.long d), none, some (.int (zb t)), none] (by decide) rfl rfl (Nat.le_of_ble_eq_true rfl) rfl ?_
  refine zx_iconst (nI 0) (q := 1) dd_Fu_takeOpening_0 rfl (by decide) ?_
  refine zx_istore_6 (q := 3) dd_Fu_takeOpening_1 rfl (by decide) rfl ?_
  refine zx_iload (q := 5) dd_Fu_takeOpening_3 rfl rfl ?_
  refine zx_iconst (nI 2) (q := 6) dd_Fu_takeOpening_5 rfl (by decide) ?_
  refine zx_icmp_ge 41 (q := 9) dd_Fu_takeOpening_6 rfl (by decide) (fun hc1 => absurd hc1 (by decide)) (fun hc1 => ?_)
  refine zx_aload_n (q := 10) dd_Fu_takeOpening_9 rfl rfl ?_
  refine zx_get (q := 13) dd_Fu_takeOpening_10 rfl fl_Fu_17 (at_f0 hf) rfl ?_
  refine zx_iload (q := 15) dd_Fu_takeOpening_13 rfl rfl ?_
  refine zx_aald (q := 16) dd_Fu_takeOpening_15 rfl (fun _ => rfl) (at_f3 hf) rfl (by decide) (by decide) ord_0 ?_
  refine zx_iload_n (q := 17) dd_Fu_takeOpening_16 rfl rfl ?_
  refine zx_iload (q := 19) dd_Fu_takeOpening_17 rfl rfl ?_
  refine zx_cV2i (q := 22) dd_Fu_takeOpening_19 rfl cv_Fu_takeOpening_172 ⟨rfl, rfl⟩ (at_t0 hf ho) rfl rfl (Nat.le_of_ble_eq_true rfl) ⟨Nat.zero_le _, Nat.zero_le _⟩ (ok0_In_isFrom hf ho fun r5 he5 => ⟨_, rfl, ?_⟩)
  refine zx_if_eq 35 (q := 25) dd_Fu_takeOpening_22 rfl (by decide) (fun hc2 => ?_) (fun hc2 => ?_)
  · skip
    replace hc2 := zb_0.mp hc2
    refine zx_iincC_6 1 (q := 38) dd_Fu_takeOpening_35 rfl rfl (by decide) rfl ?_
    refine zx_goto 3 dd_Fu_takeOpening_38 (by decide) ?_
    refine zx_iload (q := 5) dd_Fu_takeOpening_3 rfl rfl ?_
    refine zx_iconst (nI 2) (q := 6) dd_Fu_takeOpening_5 rfl (by decide) ?_
    refine zx_icmp_ge 41 (q := 9) dd_Fu_takeOpening_6 rfl (by decide) (fun hc3 => absurd hc3 (by decide)) (fun hc3 => ?_)
    refine zx_aload_n (q := 10) dd_Fu_takeOpening_9 rfl rfl ?_
    refine zx_get (q := 13) dd_Fu_takeOpening_10 rfl fl_Fu_17 (at_f0 hf) rfl ?_
    refine zx_iload (q := 15) dd_Fu_takeOpening_13 rfl rfl ?_
    refine zx_aald (q := 16) dd_Fu_takeOpening_15 rfl (fun _ => rfl) (at_f3 hf) rfl (by decide) (by decide) ord_1 ?_
    refine zx_iload_n (q := 17) dd_Fu_takeOpening_16 rfl rfl ?_
    refine zx_iload (q := 19) dd_Fu_takeOpening_17 rfl rfl ?_
    refine zx_cV2i (q := 22) dd_Fu_takeOpening_19 rfl cv_Fu_takeOpening_172 ⟨rfl, rfl⟩ (at_t1 hf ho) rfl rfl (Nat.le_of_ble_eq_true rfl) ⟨Nat.zero_le _, Nat.zero_le _⟩ (ok1_In_isFrom hf ho fun r6 he6 => ⟨_, rfl, ?_⟩)
    refine zx_if_eq 35 (q := 25) dd_Fu_takeOpening_22 rfl (by decide) (fun hc4 => ?_) (fun hc4 => ?_)
    · skip
      replace hc4 := zb_0.mp hc4
      refine zx_iincC_6 2 (q := 38) dd_Fu_takeOpening_35 rfl rfl (by decide) rfl ?_
      refine zx_goto 3 dd_Fu_takeOpening_38 (by decide) ?_
      refine zx_iload (q := 5) dd_Fu_takeOpening_3 rfl rfl ?_
      refine zx_iconst (nI 2) (q := 6) dd_Fu_takeOpening_5 rfl (by decide) ?_
      refine zx_icmp_ge 41 (q := 9) dd_Fu_takeOpening_6 rfl (by decide) (fun hc5 => ?_) (fun hc5 => absurd (by decide) hc5)
      refine zx_aload_n (q := 42) dd_Fu_takeOpening_41 rfl rfl ?_
      refine zx_cV0i (q := 45) dd_Fu_takeOpening_42 rfl cv_Fu_takeOpening_176 ⟨rfl, rfl⟩ (at_f0 hf) rfl rfl (Nat.le_of_ble_eq_true rfl) ⟨Nat.zero_le _, Nat.zero_le _⟩ (ok_Fu_countIncoming hf ho fun r7 he7 => ⟨_, rfl, ?_⟩)
      refine zx_iconst (nI 2) (q := 46) dd_Fu_takeOpening_45 rfl (by decide) ?_
      refine zx_icmp_ge 81 (q := 49) dd_Fu_takeOpening_46 rfl (by decide) (fun hc6 => ?_) (fun hc6 => ?_)
      · skip
        refine zx_iload (q := 83) dd_Fu_takeOpening_81 rfl rfl ?_
        refine zx_if_ne 105 (q := 86) dd_Fu_takeOpening_83 rfl (by decide) (fun hc7 => ?_) (fun hc7 => ?_)
        · skip
          replace hc7 := zb_n0.mp hc7
          exact zx_vret dd_Fu_takeOpening_105 rfl (hq _ _ _ _ _ _ _ _ _ _ _ _ _ (by first | (simp [pf_opening, pf_drop, pf_begin, he5, hc2, he6, hc4, he7, hc6, hc7]; done) | (clear hq; simp_all [pf_opening, pf_drop, pf_begin]; done)) hw)
        · skip
          replace hc7 := zb_0.mp hc7
          refine zx_aload_n (q := 87) dd_Fu_takeOpening_86 rfl rfl ?_
          refine zx_get (q := 90) dd_Fu_takeOpening_87 rfl fl_Fu_38 (at_f0 hf) rfl ?_
          refine zx_aload_n (q := 91) dd_Fu_takeOpening_90 rfl rfl ?_
          refine zx_get (q := 94) dd_Fu_takeOpening_91 rfl fl_Fu_42 (at_f0 hf) rfl ?_
          refine zx_ldc _ (q := 96) dd_Fu_takeOpening_94 rfl kk_Fu_187 ?_
          refine zx_iload_n (q := 97) dd_Fu_takeOpening_96 rfl rfl ?_
          refine zx_iconst (nI 2) (q := 98) dd_Fu_takeOpening_97 rfl (by decide) ?_
          refine zx_iload_n (q := 99) dd_Fu_takeOpening_98 rfl rfl ?_
          refine zx_cN2l (q := 102) dd_Fu_takeOpening_99 rfl cs_Fu_takeOpening_188 ⟨rfl, rfl⟩ (Nat.le_of_ble_eq_true rfl) ⟨Nat.zero_le _, Nat.zero_le _⟩ (ok_Ab_abortData ⟨_, rfl, ?_⟩)
          refine zx_cV4v (q := 105) dd_Fu_takeOpening_102 rfl cv_Fu_takeOpening_127 ⟨rfl, rfl⟩ at_b1 rfl rfl (Nat.le_of_ble_eq_true rfl) ⟨Nat.zero_le _, Nat.zero_le _⟩ (ok_Bu_put hf hw fun B8 he8 hw8 => ⟨rfl, ?_⟩)
          obtain ⟨ids8, con8, snd8, cnt8, ovf8, now8⟩ := B8
          exact zx_vret dd_Fu_takeOpening_105 rfl (hq _ _ _ _ _ _ _ _ _ _ _ _ _ (by first | (simp [pf_opening, pf_drop, pf_begin, he5, hc2, he6, hc4, he7, hc6, hc7, he8]; done) | (clear hq; simp_all [pf_opening, pf_drop, pf_begin]; done)) hw8)
      · skip
        refine zx_lload_n (q := 50) dd_Fu_takeOpening_49 rfl rfl ?_
        refine zx_iconst (nI 2) (q := 51) dd_Fu_takeOpening_50 rfl (by decide) ?_
        refine zx_cN2i (q := 54) dd_Fu_takeOpening_51 rfl cs_Fu_takeOpening_153 ⟨rfl, rfl⟩ (Nat.le_of_ble_eq_true rfl) ⟨Nat.zero_le _, Nat.zero_le _⟩ (ok_Ab_frameByte ⟨_, rfl, ?_⟩)
        refine zx_lload_n (q := 55) dd_Fu_takeOpening_54 rfl rfl ?_
        refine zx_iconst (nI 3) (q := 56) dd_Fu_takeOpening_55 rfl (by decide) ?_
        refine zx_cN2i (q := 59) dd_Fu_takeOpening_56 rfl cs_Fu_takeOpening_153 ⟨rfl, rfl⟩ (Nat.le_of_ble_eq_true rfl) ⟨Nat.zero_le _, Nat.zero_le _⟩ (ok_Ab_frameByte ⟨_, rfl, ?_⟩)
        refine zx_bipush (nI 8) (q := 61) dd_Fu_takeOpening_59 rfl (by decide) ?_
        refine zx_ishl (q := 62) dd_Fu_takeOpening_61 rfl ?_
        refine zx_iadd (q := 63) dd_Fu_takeOpening_62 rfl ?_
        refine zx_istore_6 (q := 65) dd_Fu_takeOpening_63 rfl (by decide) rfl ?_
        refine zx_aload_n (q := 66) dd_Fu_takeOpening_65 rfl rfl ?_
        refine zx_cV0a (q := 69) dd_Fu_takeOpening_66 rfl cv_Fu_takeOpening_179 ⟨rfl, rfl⟩ (at_f0 hf) rfl rfl (Nat.le_of_ble_eq_true rfl) ⟨Nat.zero_le _, Nat.zero_le _⟩ (ok_Fu_roomForIncoming hf ho fun ad9 bz9 nt9 o9 la9 ou9 x0_9 x1_9 de9 st9 nm9 hd9 he9 ho9 => ⟨_, rfl, ?_⟩)
        obtain ⟨⟨pk1_9, so1_9, gr1_9, si1_9, ta1_9⟩, op1_9, he1_9, ex1_9, lt1_9, ak1_9, du1_9⟩ := x1_9
        refine zx_iload_n (q := 70) dd_Fu_takeOpening_69 rfl rfl ?_
        refine zx_iload_n (q := 71) dd_Fu_takeOpening_70 rfl rfl ?_
        refine zx_iload (q := 73) dd_Fu_takeOpening_71 rfl rfl ?_
        refine zx_iload (q := 75) dd_Fu_takeOpening_73 rfl rfl ?_
        refine zx_cV4v (q := 78) dd_Fu_takeOpening_75 rfl cv_Fu_takeOpening_183 ⟨rfl, rfl⟩ (at_t1 hf ho9) rfl rfl (Nat.le_of_ble_eq_true rfl) ⟨Nat.zero_le _, Nat.zero_le _⟩ (ok1_In_begin hf ho9 hw fun B10 x10 he10 hw10 => ⟨rfl, ?_⟩)
        obtain ⟨ids10, con10, snd10, cnt10, ovf10, now10⟩ := B10
        refine zx_goto 105 dd_Fu_takeOpening_78 (by decide) ?_
        exact zx_vret dd_Fu_takeOpening_105 rfl (hq _ _ _ _ _ _ _ _ _ _ _ _ _ (by first | (simp [pf_opening, pf_drop, pf_begin, he5, hc2, he6, hc4, he7, hc6, he9, he10]; done) | (clear hq; simp_all [pf_opening, pf_drop, pf_begin]; done)) hw10)
    · skip
      replace hc4 := zb_n0.mp hc4
      refine zx_aload_n (q := 26) dd_Fu_takeOpening_25 rfl rfl ?_
      refine zx_get (q := 29) dd_Fu_takeOpening_26 rfl fl_Fu_17 (at_f0 hf) rfl ?_
      refine zx_iload (q := 31) dd_Fu_takeOpening_29 rfl rfl ?_
      refine zx_aald (q := 32) dd_Fu_takeOpening_31 rfl (fun _ => rfl) (at_f3 hf) rfl (by decide) (by decide) ord_1 ?_
      refine zx_cV0v (q := 35) dd_Fu_takeOpening_32 rfl cv_Fu_takeOpening_151 ⟨rfl, rfl⟩ (at_t1 hf ho) rfl rfl (Nat.le_of_ble_eq_true rfl) ⟨Nat.zero_le _, Nat.zero_le _⟩ (ok1_In_end hf ho ⟨rfl, ?_⟩)
      refine zx_iincC_6 2 (q := 38) dd_Fu_takeOpening_35 rfl rfl (by decide) rfl ?_
      refine zx_goto 3 dd_Fu_takeOpening_38 (by decide) ?_
      refine zx_iload (q := 5) dd_Fu_takeOpening_3 rfl rfl ?_
      refine zx_iconst (nI 2) (q := 6) dd_Fu_takeOpening_5 rfl (by decide) ?_
      refine zx_icmp_ge 41 (q := 9) dd_Fu_takeOpening_6 rfl (by decide) (fun hc8 => ?_) (fun hc8 => absurd (by decide) hc8)
      refine zx_aload_n (q := 42) dd_Fu_takeOpening_41 rfl rfl ?_
      refine zx_cV0i (q := 45) dd_Fu_takeOpening_42 rfl cv_Fu_takeOpening_176 ⟨rfl, rfl⟩ (at_f0 hf) rfl rfl (Nat.le_of_ble_eq_true rfl) ⟨Nat.zero_le _, Nat.zero_le _⟩ (ok_Fu_countIncoming hf ho fun r11 he11 => ⟨_, rfl, ?_⟩)
      refine zx_iconst (nI 2) (q := 46) dd_Fu_takeOpening_45 rfl (by decide) ?_
      refine zx_icmp_ge 81 (q := 49) dd_Fu_takeOpening_46 rfl (by decide) (fun hc9 => ?_) (fun hc9 => ?_)
      · skip
        refine zx_iload (q := 83) dd_Fu_takeOpening_81 rfl rfl ?_
        refine zx_if_ne 105 (q := 86) dd_Fu_takeOpening_83 rfl (by decide) (fun hc10 => ?_) (fun hc10 => ?_)
        · skip
          replace hc10 := zb_n0.mp hc10
          exact zx_vret dd_Fu_takeOpening_105 rfl (hq _ _ _ _ _ _ _ _ _ _ _ _ _ (by first | (simp [pf_opening, pf_drop, pf_begin, he5, hc2, he6, hc4, he11, hc9, hc10]; done) | (clear hq; simp_all [pf_opening, pf_drop, pf_begin]; done)) hw)
        · skip
          replace hc10 := zb_0.mp hc10
          refine zx_aload_n (q := 87) dd_Fu_takeOpening_86 rfl rfl ?_
          refine zx_get (q := 90) dd_Fu_takeOpening_87 rfl fl_Fu_38 (at_f0 hf) rfl ?_
          refine zx_aload_n (q := 91) dd_Fu_takeOpening_90 rfl rfl ?_
          refine zx_get (q := 94) dd_Fu_takeOpening_91 rfl fl_Fu_42 (at_f0 hf) rfl ?_
          refine zx_ldc _ (q := 96) dd_Fu_takeOpening_94 rfl kk_Fu_187 ?_
          refine zx_iload_n (q := 97) dd_Fu_takeOpening_96 rfl rfl ?_
          refine zx_iconst (nI 2) (q := 98) dd_Fu_takeOpening_97 rfl (by decide) ?_
          refine zx_iload_n (q := 99) dd_Fu_takeOpening_98 rfl rfl ?_
          refine zx_cN2l (q := 102) dd_Fu_takeOpening_99 rfl cs_Fu_takeOpening_188 ⟨rfl, rfl⟩ (Nat.le_of_ble_eq_true rfl) ⟨Nat.zero_le _, Nat.zero_le _⟩ (ok_Ab_abortData ⟨_, rfl, ?_⟩)
          refine zx_cV4v (q := 105) dd_Fu_takeOpening_102 rfl cv_Fu_takeOpening_127 ⟨rfl, rfl⟩ at_b1 rfl rfl (Nat.le_of_ble_eq_true rfl) ⟨Nat.zero_le _, Nat.zero_le _⟩ (ok_Bu_put hf hw fun B12 he12 hw12 => ⟨rfl, ?_⟩)
          obtain ⟨ids12, con12, snd12, cnt12, ovf12, now12⟩ := B12
          exact zx_vret dd_Fu_takeOpening_105 rfl (hq _ _ _ _ _ _ _ _ _ _ _ _ _ (by first | (simp [pf_opening, pf_drop, pf_begin, he5, hc2, he6, hc4, he11, hc9, hc10, he12]; done) | (clear hq; simp_all [pf_opening, pf_drop, pf_begin]; done)) hw12)
      · skip
        refine zx_lload_n (q := 50) dd_Fu_takeOpening_49 rfl rfl ?_
        refine zx_iconst (nI 2) (q := 51) dd_Fu_takeOpening_50 rfl (by decide) ?_
        refine zx_cN2i (q := 54) dd_Fu_takeOpening_51 rfl cs_Fu_takeOpening_153 ⟨rfl, rfl⟩ (Nat.le_of_ble_eq_true rfl) ⟨Nat.zero_le _, Nat.zero_le _⟩ (ok_Ab_frameByte ⟨_, rfl, ?_⟩)
        refine zx_lload_n (q := 55) dd_Fu_takeOpening_54 rfl rfl ?_
        refine zx_iconst (nI 3) (q := 56) dd_Fu_takeOpening_55 rfl (by decide) ?_
        refine zx_cN2i (q := 59) dd_Fu_takeOpening_56 rfl cs_Fu_takeOpening_153 ⟨rfl, rfl⟩ (Nat.le_of_ble_eq_true rfl) ⟨Nat.zero_le _, Nat.zero_le _⟩ (ok_Ab_frameByte ⟨_, rfl, ?_⟩)
        refine zx_bipush (nI 8) (q := 61) dd_Fu_takeOpening_59 rfl (by decide) ?_
        refine zx_ishl (q := 62) dd_Fu_takeOpening_61 rfl ?_
        refine zx_iadd (q := 63) dd_Fu_takeOpening_62 rfl ?_
        refine zx_istore_6 (q := 65) dd_Fu_takeOpening_63 rfl (by decide) rfl ?_
        refine zx_aload_n (q := 66) dd_Fu_takeOpening_65 rfl rfl ?_
        refine zx_cV0a (q := 69) dd_Fu_takeOpening_66 rfl cv_Fu_takeOpening_179 ⟨rfl, rfl⟩ (at_f0 hf) rfl rfl (Nat.le_of_ble_eq_true rfl) ⟨Nat.zero_le _, Nat.zero_le _⟩ (ok_Fu_roomForIncoming hf ho fun ad13 bz13 nt13 o13 la13 ou13 x0_13 x1_13 de13 st13 nm13 hd13 he13 ho13 => ⟨_, rfl, ?_⟩)
        obtain ⟨⟨pk1_13, so1_13, gr1_13, si1_13, ta1_13⟩, op1_13, he1_13, ex1_13, lt1_13, ak1_13, du1_13⟩ := x1_13
        refine zx_iload_n (q := 70) dd_Fu_takeOpening_69 rfl rfl ?_
        refine zx_iload_n (q := 71) dd_Fu_takeOpening_70 rfl rfl ?_
        refine zx_iload (q := 73) dd_Fu_takeOpening_71 rfl rfl ?_
        refine zx_iload (q := 75) dd_Fu_takeOpening_73 rfl rfl ?_
        refine zx_cV4v (q := 78) dd_Fu_takeOpening_75 rfl cv_Fu_takeOpening_183 ⟨rfl, rfl⟩ (at_t1 hf ho13) rfl rfl (Nat.le_of_ble_eq_true rfl) ⟨Nat.zero_le _, Nat.zero_le _⟩ (ok1_In_begin hf ho13 hw fun B14 x14 he14 hw14 => ⟨rfl, ?_⟩)
        obtain ⟨ids14, con14, snd14, cnt14, ovf14, now14⟩ := B14
        refine zx_goto 105 dd_Fu_takeOpening_78 (by decide) ?_
        exact zx_vret dd_Fu_takeOpening_105 rfl (hq _ _ _ _ _ _ _ _ _ _ _ _ _ (by first | (simp [pf_opening, pf_drop, pf_begin, he5, hc2, he6, hc4, he11, hc9, he13, he14]; done) | (clear hq; simp_all [pf_opening, pf_drop, pf_begin]; done)) hw14)
  · skip
    replace hc2 := zb_n0.mp hc2
    refine zx_aload_n (q := 26) dd_Fu_takeOpening_25 rfl rfl ?_
    refine zx_get (q := 29) dd_Fu_takeOpening_26 rfl fl_Fu_17 (at_f0 hf) rfl ?_
    refine zx_iload (q := 31) dd_Fu_takeOpening_29 rfl rfl ?_
    refine zx_aald (q := 32) dd_Fu_takeOpening_31 rfl (fun _ => rfl) (at_f3 hf) rfl (by decide) (by decide) ord_0 ?_
    refine zx_cV0v (q := 35) dd_Fu_takeOpening_32 rfl cv_Fu_takeOpening_151 ⟨rfl, rfl⟩ (at_t0 hf ho) rfl rfl (Nat.le_of_ble_eq_true rfl) ⟨Nat.zero_le _, Nat.zero_le _⟩ (ok0_In_end hf ho ⟨rfl, ?_⟩)
    refine zx_iincC_6 1 (q := 38) dd_Fu_takeOpening_35 rfl rfl (by decide) rfl ?_
    refine zx_goto 3 dd_Fu_takeOpening_38 (by decide) ?_
    refine zx_iload (q := 5) dd_Fu_takeOpening_3 rfl rfl ?_
    refine zx_iconst (nI 2) (q := 6) dd_Fu_takeOpening_5 rfl (by decide) ?_
    refine zx_icmp_ge 41 (q := 9) dd_Fu_takeOpening_6 rfl (by decide) (fun hc11 => absurd hc11 (by decide)) (fun hc11 => ?_)
    refine zx_aload_n (q := 10) dd_Fu_takeOpening_9 rfl rfl ?_
    refine zx_get (q := 13) dd_Fu_takeOpening_10 rfl fl_Fu_17 (at_f0 hf) rfl ?_
    refine zx_iload (q := 15) dd_Fu_takeOpening_13 rfl rfl ?_
    refine zx_aald (q := 16) dd_Fu_takeOpening_15 rfl (fun _ => rfl) (at_f3 hf) rfl (by decide) (by decide) ord_1 ?_
    refine zx_iload_n (q := 17) dd_Fu_takeOpening_16 rfl rfl ?_
    refine zx_iload (q := 19) dd_Fu_takeOpening_17 rfl rfl ?_
    refine zx_cV2i (q := 22) dd_Fu_takeOpening_19 rfl cv_Fu_takeOpening_172 ⟨rfl, rfl⟩ (at_t1 hf ho) rfl rfl (Nat.le_of_ble_eq_true rfl) ⟨Nat.zero_le _, Nat.zero_le _⟩ (ok1_In_isFrom hf ho fun r15 he15 => ⟨_, rfl, ?_⟩)
    refine zx_if_eq 35 (q := 25) dd_Fu_takeOpening_22 rfl (by decide) (fun hc12 => ?_) (fun hc12 => ?_)
    · skip
      replace hc12 := zb_0.mp hc12
      refine zx_iincC_6 2 (q := 38) dd_Fu_takeOpening_35 rfl rfl (by decide) rfl ?_
      refine zx_goto 3 dd_Fu_takeOpening_38 (by decide) ?_
      refine zx_iload (q := 5) dd_Fu_takeOpening_3 rfl rfl ?_
      refine zx_iconst (nI 2) (q := 6) dd_Fu_takeOpening_5 rfl (by decide) ?_
      refine zx_icmp_ge 41 (q := 9) dd_Fu_takeOpening_6 rfl (by decide) (fun hc13 => ?_) (fun hc13 => absurd (by decide) hc13)
      refine zx_aload_n (q := 42) dd_Fu_takeOpening_41 rfl rfl ?_
      refine zx_cV0i (q := 45) dd_Fu_takeOpening_42 rfl cv_Fu_takeOpening_176 ⟨rfl, rfl⟩ (at_f0 hf) rfl rfl (Nat.le_of_ble_eq_true rfl) ⟨Nat.zero_le _, Nat.zero_le _⟩ (ok_Fu_countIncoming hf ho fun r16 he16 => ⟨_, rfl, ?_⟩)
      refine zx_iconst (nI 2) (q := 46) dd_Fu_takeOpening_45 rfl (by decide) ?_
      refine zx_icmp_ge 81 (q := 49) dd_Fu_takeOpening_46 rfl (by decide) (fun hc14 => ?_) (fun hc14 => ?_)
      · skip
        refine zx_iload (q := 83) dd_Fu_takeOpening_81 rfl rfl ?_
        refine zx_if_ne 105 (q := 86) dd_Fu_takeOpening_83 rfl (by decide) (fun hc15 => ?_) (fun hc15 => ?_)
        · skip
          replace hc15 := zb_n0.mp hc15
          exact zx_vret dd_Fu_takeOpening_105 rfl (hq _ _ _ _ _ _ _ _ _ _ _ _ _ (by first | (simp [pf_opening, pf_drop, pf_begin, he5, hc2, he15, hc12, he16, hc14, hc15]; done) | (clear hq; simp_all [pf_opening, pf_drop, pf_begin]; done)) hw)
        · skip
          replace hc15 := zb_0.mp hc15
          refine zx_aload_n (q := 87) dd_Fu_takeOpening_86 rfl rfl ?_
          refine zx_get (q := 90) dd_Fu_takeOpening_87 rfl fl_Fu_38 (at_f0 hf) rfl ?_
          refine zx_aload_n (q := 91) dd_Fu_takeOpening_90 rfl rfl ?_
          refine zx_get (q := 94) dd_Fu_takeOpening_91 rfl fl_Fu_42 (at_f0 hf) rfl ?_
          refine zx_ldc _ (q := 96) dd_Fu_takeOpening_94 rfl kk_Fu_187 ?_
          refine zx_iload_n (q := 97) dd_Fu_takeOpening_96 rfl rfl ?_
          refine zx_iconst (nI 2) (q := 98) dd_Fu_takeOpening_97 rfl (by decide) ?_
          refine zx_iload_n (q := 99) dd_Fu_takeOpening_98 rfl rfl ?_
          refine zx_cN2l (q := 102) dd_Fu_takeOpening_99 rfl cs_Fu_takeOpening_188 ⟨rfl, rfl⟩ (Nat.le_of_ble_eq_true rfl) ⟨Nat.zero_le _, Nat.zero_le _⟩ (ok_Ab_abortData ⟨_, rfl, ?_⟩)
          refine zx_cV4v (q := 105) dd_Fu_takeOpening_102 rfl cv_Fu_takeOpening_127 ⟨rfl, rfl⟩ at_b1 rfl rfl (Nat.le_of_ble_eq_true rfl) ⟨Nat.zero_le _, Nat.zero_le _⟩ (ok_Bu_put hf hw fun B17 he17 hw17 => ⟨rfl, ?_⟩)
          obtain ⟨ids17, con17, snd17, cnt17, ovf17, now17⟩ := B17
          exact zx_vret dd_Fu_takeOpening_105 rfl (hq _ _ _ _ _ _ _ _ _ _ _ _ _ (by first | (simp [pf_opening, pf_drop, pf_begin, he5, hc2, he15, hc12, he16, hc14, hc15, he17]; done) | (clear hq; simp_all [pf_opening, pf_drop, pf_begin]; done)) hw17)
      · skip
        refine zx_lload_n (q := 50) dd_Fu_takeOpening_49 rfl rfl ?_
        refine zx_iconst (nI 2) (q := 51) dd_Fu_takeOpening_50 rfl (by decide) ?_
        refine zx_cN2i (q := 54) dd_Fu_takeOpening_51 rfl cs_Fu_takeOpening_153 ⟨rfl, rfl⟩ (Nat.le_of_ble_eq_true rfl) ⟨Nat.zero_le _, Nat.zero_le _⟩ (ok_Ab_frameByte ⟨_, rfl, ?_⟩)
        refine zx_lload_n (q := 55) dd_Fu_takeOpening_54 rfl rfl ?_
        refine zx_iconst (nI 3) (q := 56) dd_Fu_takeOpening_55 rfl (by decide) ?_
        refine zx_cN2i (q := 59) dd_Fu_takeOpening_56 rfl cs_Fu_takeOpening_153 ⟨rfl, rfl⟩ (Nat.le_of_ble_eq_true rfl) ⟨Nat.zero_le _, Nat.zero_le _⟩ (ok_Ab_frameByte ⟨_, rfl, ?_⟩)
        refine zx_bipush (nI 8) (q := 61) dd_Fu_takeOpening_59 rfl (by decide) ?_
        refine zx_ishl (q := 62) dd_Fu_takeOpening_61 rfl ?_
        refine zx_iadd (q := 63) dd_Fu_takeOpening_62 rfl ?_
        refine zx_istore_6 (q := 65) dd_Fu_takeOpening_63 rfl (by decide) rfl ?_
        refine zx_aload_n (q := 66) dd_Fu_takeOpening_65 rfl rfl ?_
        refine zx_cV0a (q := 69) dd_Fu_takeOpening_66 rfl cv_Fu_takeOpening_179 ⟨rfl, rfl⟩ (at_f0 hf) rfl rfl (Nat.le_of_ble_eq_true rfl) ⟨Nat.zero_le _, Nat.zero_le _⟩ (ok_Fu_roomForIncoming hf ho fun ad18 bz18 nt18 o18 la18 ou18 x0_18 x1_18 de18 st18 nm18 hd18 he18 ho18 => ⟨_, rfl, ?_⟩)
        obtain ⟨⟨pk1_18, so1_18, gr1_18, si1_18, ta1_18⟩, op1_18, he1_18, ex1_18, lt1_18, ak1_18, du1_18⟩ := x1_18
        refine zx_iload_n (q := 70) dd_Fu_takeOpening_69 rfl rfl ?_
        refine zx_iload_n (q := 71) dd_Fu_takeOpening_70 rfl rfl ?_
        refine zx_iload (q := 73) dd_Fu_takeOpening_71 rfl rfl ?_
        refine zx_iload (q := 75) dd_Fu_takeOpening_73 rfl rfl ?_
        refine zx_cV4v (q := 78) dd_Fu_takeOpening_75 rfl cv_Fu_takeOpening_183 ⟨rfl, rfl⟩ (at_t1 hf ho18) rfl rfl (Nat.le_of_ble_eq_true rfl) ⟨Nat.zero_le _, Nat.zero_le _⟩ (ok1_In_begin hf ho18 hw fun B19 x19 he19 hw19 => ⟨rfl, ?_⟩)
        obtain ⟨ids19, con19, snd19, cnt19, ovf19, now19⟩ := B19
        refine zx_goto 105 dd_Fu_takeOpening_78 (by decide) ?_
        exact zx_vret dd_Fu_takeOpening_105 rfl (hq _ _ _ _ _ _ _ _ _ _ _ _ _ (by first | (simp [pf_opening, pf_drop, pf_begin, he5, hc2, he15, hc12, he16, hc14, he18, he19]; done) | (clear hq; simp_all [pf_opening, pf_drop, pf_begin]; done)) hw19)
    · skip
      replace hc12 := zb_n0.mp hc12
      refine zx_aload_n (q := 26) dd_Fu_takeOpening_25 rfl rfl ?_
      refine zx_get (q := 29) dd_Fu_takeOpening_26 rfl fl_Fu_17 (at_f0 hf) rfl ?_
      refine zx_iload (q := 31) dd_Fu_takeOpening_29 rfl rfl ?_
      refine zx_aald (q := 32) dd_Fu_takeOpening_31 rfl (fun _ => rfl) (at_f3 hf) rfl (by decide) (by decide) ord_1 ?_
      refine zx_cV0v (q := 35) dd_Fu_takeOpening_32 rfl cv_Fu_takeOpening_151 ⟨rfl, rfl⟩ (at_t1 hf ho) rfl rfl (Nat.le_of_ble_eq_true rfl) ⟨Nat.zero_le _, Nat.zero_le _⟩ (ok1_In_end hf ho ⟨rfl, ?_⟩)
      refine zx_iincC_6 2 (q := 38) dd_Fu_takeOpening_35 rfl rfl (by decide) rfl ?_
      refine zx_goto 3 dd_Fu_takeOpening_38 (by decide) ?_
      refine zx_iload (q := 5) dd_Fu_takeOpening_3 rfl rfl ?_
      refine zx_iconst (nI 2) (q := 6) dd_Fu_takeOpening_5 rfl (by decide) ?_
      refine zx_icmp_ge 41 (q := 9) dd_Fu_takeOpening_6 rfl (by decide) (fun hc16 => ?_) (fun hc16 => absurd (by decide) hc16)
      refine zx_aload_n (q := 42) dd_Fu_takeOpening_41 rfl rfl ?_
      refine zx_cV0i (q := 45) dd_Fu_takeOpening_42 rfl cv_Fu_takeOpening_176 ⟨rfl, rfl⟩ (at_f0 hf) rfl rfl (Nat.le_of_ble_eq_true rfl) ⟨Nat.zero_le _, Nat.zero_le _⟩ (ok_Fu_countIncoming hf ho fun r20 he20 => ⟨_, rfl, ?_⟩)
      refine zx_iconst (nI 2) (q := 46) dd_Fu_takeOpening_45 rfl (by decide) ?_
      refine zx_icmp_ge 81 (q := 49) dd_Fu_takeOpening_46 rfl (by decide) (fun hc17 => ?_) (fun hc17 => ?_)
      · skip
        refine zx_iload (q := 83) dd_Fu_takeOpening_81 rfl rfl ?_
        refine zx_if_ne 105 (q := 86) dd_Fu_takeOpening_83 rfl (by decide) (fun hc18 => ?_) (fun hc18 => ?_)
        · skip
          replace hc18 := zb_n0.mp hc18
          exact zx_vret dd_Fu_takeOpening_105 rfl (hq _ _ _ _ _ _ _ _ _ _ _ _ _ (by first | (simp [pf_opening, pf_drop, pf_begin, he5, hc2, he15, hc12, he20, hc17, hc18]; done) | (clear hq; simp_all [pf_opening, pf_drop, pf_begin]; done)) hw)
        · skip
          replace hc18 := zb_0.mp hc18
          refine zx_aload_n (q := 87) dd_Fu_takeOpening_86 rfl rfl ?_
          refine zx_get (q := 90) dd_Fu_takeOpening_87 rfl fl_Fu_38 (at_f0 hf) rfl ?_
          refine zx_aload_n (q := 91) dd_Fu_takeOpening_90 rfl rfl ?_
          refine zx_get (q := 94) dd_Fu_takeOpening_91 rfl fl_Fu_42 (at_f0 hf) rfl ?_
          refine zx_ldc _ (q := 96) dd_Fu_takeOpening_94 rfl kk_Fu_187 ?_
          refine zx_iload_n (q := 97) dd_Fu_takeOpening_96 rfl rfl ?_
          refine zx_iconst (nI 2) (q := 98) dd_Fu_takeOpening_97 rfl (by decide) ?_
          refine zx_iload_n (q := 99) dd_Fu_takeOpening_98 rfl rfl ?_
          refine zx_cN2l (q := 102) dd_Fu_takeOpening_99 rfl cs_Fu_takeOpening_188 ⟨rfl, rfl⟩ (Nat.le_of_ble_eq_true rfl) ⟨Nat.zero_le _, Nat.zero_le _⟩ (ok_Ab_abortData ⟨_, rfl, ?_⟩)
          refine zx_cV4v (q := 105) dd_Fu_takeOpening_102 rfl cv_Fu_takeOpening_127 ⟨rfl, rfl⟩ at_b1 rfl rfl (Nat.le_of_ble_eq_true rfl) ⟨Nat.zero_le _, Nat.zero_le _⟩ (ok_Bu_put hf hw fun B21 he21 hw21 => ⟨rfl, ?_⟩)
          obtain ⟨ids21, con21, snd21, cnt21, ovf21, now21⟩ := B21
          exact zx_vret dd_Fu_takeOpening_105 rfl (hq _ _ _ _ _ _ _ _ _ _ _ _ _ (by first | (simp [pf_opening, pf_drop, pf_begin, he5, hc2, he15, hc12, he20, hc17, hc18, he21]; done) | (clear hq; simp_all [pf_opening, pf_drop, pf_begin]; done)) hw21)
      · skip
        refine zx_lload_n (q := 50) dd_Fu_takeOpening_49 rfl rfl ?_
        refine zx_iconst (nI 2) (q := 51) dd_Fu_takeOpening_50 rfl (by decide) ?_
        refine zx_cN2i (q := 54) dd_Fu_takeOpening_51 rfl cs_Fu_takeOpening_153 ⟨rfl, rfl⟩ (Nat.le_of_ble_eq_true rfl) ⟨Nat.zero_le _, Nat.zero_le _⟩ (ok_Ab_frameByte ⟨_, rfl, ?_⟩)
        refine zx_lload_n (q := 55) dd_Fu_takeOpening_54 rfl rfl ?_
        refine zx_iconst (nI 3) (q := 56) dd_Fu_takeOpening_55 rfl (by decide) ?_
        refine zx_cN2i (q := 59) dd_Fu_takeOpening_56 rfl cs_Fu_takeOpening_153 ⟨rfl, rfl⟩ (Nat.le_of_ble_eq_true rfl) ⟨Nat.zero_le _, Nat.zero_le _⟩ (ok_Ab_frameByte ⟨_, rfl, ?_⟩)
        refine zx_bipush (nI 8) (q := 61) dd_Fu_takeOpening_59 rfl (by decide) ?_
        refine zx_ishl (q := 62) dd_Fu_takeOpening_61 rfl ?_
        refine zx_iadd (q := 63) dd_Fu_takeOpening_62 rfl ?_
        refine zx_istore_6 (q := 65) dd_Fu_takeOpening_63 rfl (by decide) rfl ?_
        refine zx_aload_n (q := 66) dd_Fu_takeOpening_65 rfl rfl ?_
        refine zx_cV0a (q := 69) dd_Fu_takeOpening_66 rfl cv_Fu_takeOpening_179 ⟨rfl, rfl⟩ (at_f0 hf) rfl rfl (Nat.le_of_ble_eq_true rfl) ⟨Nat.zero_le _, Nat.zero_le _⟩ (ok_Fu_roomForIncoming hf ho fun ad22 bz22 nt22 o22 la22 ou22 x0_22 x1_22 de22 st22 nm22 hd22 he22 ho22 => ⟨_, rfl, ?_⟩)
        obtain ⟨⟨pk1_22, so1_22, gr1_22, si1_22, ta1_22⟩, op1_22, he1_22, ex1_22, lt1_22, ak1_22, du1_22⟩ := x1_22
        refine zx_iload_n (q := 70) dd_Fu_takeOpening_69 rfl rfl ?_
        refine zx_iload_n (q := 71) dd_Fu_takeOpening_70 rfl rfl ?_
        refine zx_iload (q := 73) dd_Fu_takeOpening_71 rfl rfl ?_
        refine zx_iload (q := 75) dd_Fu_takeOpening_73 rfl rfl ?_
        refine zx_cV4v (q := 78) dd_Fu_takeOpening_75 rfl cv_Fu_takeOpening_183 ⟨rfl, rfl⟩ (at_t1 hf ho22) rfl rfl (Nat.le_of_ble_eq_true rfl) ⟨Nat.zero_le _, Nat.zero_le _⟩ (ok1_In_begin hf ho22 hw fun B23 x23 he23 hw23 => ⟨rfl, ?_⟩)
        obtain ⟨ids23, con23, snd23, cnt23, ovf23, now23⟩ := B23
        refine zx_goto 105 dd_Fu_takeOpening_78 (by decide) ?_
        exact zx_vret dd_Fu_takeOpening_105 rfl (hq _ _ _ _ _ _ _ _ _ _ _ _ _ (by first | (simp [pf_opening, pf_drop, pf_begin, he5, hc2, he15, hc12, he20, hc17, he22, he23]; done) | (clear hq; simp_all [pf_opening, pf_drop, pf_begin]; done)) hw23)
set_option maxRecDepth 100000 in
set_option maxHeartbeats 4000000 in
theorem ok1_Fu_takePacket {E : zxE} {b f n : Nat} {F : Nat → zFn} {D : zMd} {B : zB} {ad : Int32} {bz : Bool} {nt : Nat → Int32} {o : Nat} {la : zMs} {ou : zOu} {x0 x1 : zIn} {de st : Int32} {nm hd : Int64} {Q : Option Value → zxH → Nat → Prop} {s : Int32} {d : Int64} (hf : f < 5) (ho : o ≤ 1) (hw : B.2.2.2.1 ≤ 48) (hex0 : x0.2.2.2.1 < 100000) (hex1 : x1.2.2.2.1 < 100000) (hq : ∀ B' ad' bz' nt' o' la' ou' x0' x1' de' st' nm' hd', pf_packet B (nI f) (ad, bz, nt, o, la, ou, x0, x1, de, st, nm, hd) s true d = (B', (ad', bz', nt', o', la', ou', x0', x1', de', st', nm', hd')) → B'.2.2.2.1 ≤ 48 → Q none (zs b (B', foc F f (ad', bz', nt', o', la', ou', tw o' x0' x1', de', st', nm', hd'), D)) n) : zx_Ok E my_Fu_takePacket mi_Fu_takePacket [.ref (fa b f 0), .int s, .int (zb true), .long d] (zs b (B, foc F f (ad, bz, nt, o, la, ou, tw o x0 x1, de, st, nm, hd), D)) n Q := by
  obtain ⟨ids, con, snd, cnt, ovf, now⟩ := B
  obtain ⟨⟨pk0, so0, gr0, si0, ta0⟩, op0, he0, ex0, lt0, ak0, du0⟩ := x0
  obtain ⟨⟨pk1, so1, gr1, si1, ta1⟩, op1, he1, ex1, lt1, ak1, du1⟩ := x1
  obtain ⟨pkl, sol, grl, sil, tal⟩ := la
  refine zx_start [some (.ref (fa b f 0)), some (.int s), some (.int (zb true)), some (.long d), none, none, none, none] (by decide) rfl rfl (Nat.le_of_ble_eq_true rfl) rfl ?_
  refine zx_iconst (nI 0) (q := 1) dd_Fu_takePacket_0 rfl (by decide) ?_
  refine zx_istore_5 (q := 3) dd_Fu_takePacket_1 rfl (by decide) rfl ?_
  refine zx_iload (q := 5) dd_Fu_takePacket_3 rfl rfl ?_
  refine zx_iconst (nI 2) (q := 6) dd_Fu_takePacket_5 rfl (by decide) ?_
  refine zx_icmp_ge 82 (q := 9) dd_Fu_takePacket_6 rfl (by decide) (fun hc1 => absurd hc1 (by decide)) (fun hc1 => ?_)
  refine zx_aload_n (q := 10) dd_Fu_takePacket_9 rfl rfl ?_
  refine zx_get (q := 13) dd_Fu_takePacket_10 rfl fl_Fu_17 (at_f0 hf) rfl ?_
  refine zx_iload (q := 15) dd_Fu_takePacket_13 rfl rfl ?_
  refine zx_aald (q := 16) dd_Fu_takePacket_15 rfl (fun _ => rfl) (at_f3 hf) rfl (by decide) (by decide) ord_0 ?_
  refine zx_astore_6 (q := 18) dd_Fu_takePacket_16 rfl (by decide) rfl ?_
  refine zx_aload (q := 20) dd_Fu_takePacket_18 rfl rfl ?_
  refine zx_iload_n (q := 21) dd_Fu_takePacket_20 rfl rfl ?_
  refine zx_iload_n (q := 22) dd_Fu_takePacket_21 rfl rfl ?_
  refine zx_cV2i (q := 25) dd_Fu_takePacket_22 rfl cv_Fu_takePacket_172 ⟨rfl, rfl⟩ (at_t0 hf ho) rfl rfl (Nat.le_of_ble_eq_true rfl) ⟨Nat.zero_le _, Nat.zero_le _⟩ (ok0_In_isFrom hf ho fun r24 he24 => ⟨_, rfl, ?_⟩)
  refine zx_if_eq 76 (q := 28) dd_Fu_takePacket_25 rfl (by decide) (fun hc2 => ?_) (fun hc2 => ?_)
  · skip
    replace hc2 := zb_0.mp hc2
    refine zx_iincC_5 1 (q := 79) dd_Fu_takePacket_76 rfl rfl (by decide) rfl ?_
    refine zx_goto 3 dd_Fu_takePacket_79 (by decide) ?_
    refine zx_iload (q := 5) dd_Fu_takePacket_3 rfl rfl ?_
    refine zx_iconst (nI 2) (q := 6) dd_Fu_takePacket_5 rfl (by decide) ?_
    refine zx_icmp_ge 82 (q := 9) dd_Fu_takePacket_6 rfl (by decide) (fun hc3 => absurd hc3 (by decide)) (fun hc3 => ?_)
    refine zx_aload_n (q := 10) dd_Fu_takePacket_9 rfl rfl ?_
    refine zx_get (q := 13) dd_Fu_takePacket_10 rfl fl_Fu_17 (at_f0 hf) rfl ?_
    refine zx_iload (q := 15) dd_Fu_takePacket_13 rfl rfl ?_
    refine zx_aald (q := 16) dd_Fu_takePacket_15 rfl (fun _ => rfl) (at_f3 hf) rfl (by decide) (by decide) ord_1 ?_
    refine zx_astore_6 (q := 18) dd_Fu_takePacket_16 rfl (by decide) rfl ?_
    refine zx_aload (q := 20) dd_Fu_takePacket_18 rfl rfl ?_
    refine zx_iload_n (q := 21) dd_Fu_takePacket_20 rfl rfl ?_
    refine zx_iload_n (q := 22) dd_Fu_takePacket_21 rfl rfl ?_
    refine zx_cV2i (q := 25) dd_Fu_takePacket_22 rfl cv_Fu_takePacket_172 ⟨rfl, rfl⟩ (at_t1 hf ho) rfl rfl (Nat.le_of_ble_eq_true rfl) ⟨Nat.zero_le _, Nat.zero_le _⟩ (ok1_In_isFrom hf ho fun r25 he25 => ⟨_, rfl, ?_⟩)
    refine zx_if_eq 76 (q := 28) dd_Fu_takePacket_25 rfl (by decide) (fun hc4 => ?_) (fun hc4 => ?_)
    · skip
      replace hc4 := zb_0.mp hc4
      refine zx_iincC_5 2 (q := 79) dd_Fu_takePacket_76 rfl rfl (by decide) rfl ?_
      refine zx_goto 3 dd_Fu_takePacket_79 (by decide) ?_
      refine zx_iload (q := 5) dd_Fu_takePacket_3 rfl rfl ?_
      refine zx_iconst (nI 2) (q := 6) dd_Fu_takePacket_5 rfl (by decide) ?_
      refine zx_icmp_ge 82 (q := 9) dd_Fu_takePacket_6 rfl (by decide) (fun hc5 => ?_) (fun hc5 => absurd (by decide) hc5)
      exact zx_vret dd_Fu_takePacket_82 rfl (hq _ _ _ _ _ _ _ _ _ _ _ _ _ (by first | (simp [pf_packet, pf_pkt, he24, hc2, he25, hc4]; done) | (clear hq; simp_all [pf_packet, pf_pkt]; done)) hw)
    · skip
      replace hc4 := zb_n0.mp hc4
      refine zx_iload_n (q := 29) dd_Fu_takePacket_28 rfl rfl ?_
      refine zx_if_eq 41 (q := 32) dd_Fu_takePacket_29 rfl (by decide) (fun hc6 => absurd hc6 (by decide)) (fun hc6 => ?_)
      refine zx_aload (q := 34) dd_Fu_takePacket_32 rfl rfl ?_
      refine zx_lload_n (q := 35) dd_Fu_takePacket_34 rfl rfl ?_
      refine zx_cV1i (q := 38) dd_Fu_takePacket_35 rfl cv_Fu_takePacket_198 ⟨rfl, rfl⟩ (at_t1 hf ho) rfl rfl (Nat.le_of_ble_eq_true rfl) ⟨Nat.zero_le _, Nat.zero_le _⟩ (ok1_In_takeToAll hf ho hex1 fun r26 x26 he26 => ⟨_, rfl, ?_⟩)
      obtain ⟨⟨pk_26, so_26, gr_26, si_26, ta_26⟩, op_26, he_26, ex_26, lt_26, ak_26, du_26⟩ := x26
      refine zx_goto 47 dd_Fu_takePacket_38 (by decide) ?_
      refine zx_istore_7 (q := 49) dd_Fu_takePacket_47 rfl (by decide) rfl ?_
      refine zx_iload (q := 51) dd_Fu_takePacket_49 rfl rfl ?_
      refine zx_if_eq 76 (q := 54) dd_Fu_takePacket_51 rfl (by decide) (fun hc7 => ?_) (fun hc7 => ?_)
      · skip
        replace hc7 := zb_0.mp hc7
        refine zx_iincC_5 2 (q := 79) dd_Fu_takePacket_76 rfl rfl (by decide) rfl ?_
        refine zx_goto 3 dd_Fu_takePacket_79 (by decide) ?_
        refine zx_iload (q := 5) dd_Fu_takePacket_3 rfl rfl ?_
        refine zx_iconst (nI 2) (q := 6) dd_Fu_takePacket_5 rfl (by decide) ?_
        refine zx_icmp_ge 82 (q := 9) dd_Fu_takePacket_6 rfl (by decide) (fun hc8 => ?_) (fun hc8 => absurd (by decide) hc8)
        exact zx_vret dd_Fu_takePacket_82 rfl (hq _ _ _ _ _ _ _ _ _ _ _ _ _ (by first | (simp [pf_packet, pf_pkt, he24, hc2, he25, hc4, he26, hc7]; done) | (clear hq; simp_all [pf_packet, pf_pkt]; done)) hw)
      · skip
        replace hc7 := zb_n0.mp hc7
        refine zx_aload_n (q := 55) dd_Fu_takePacket_54 rfl rfl ?_
        refine zx_get (q := 58) dd_Fu_takePacket_55 rfl fl_Fu_24 (at_f0 hf) rfl ?_
        refine zx_aload (q := 60) dd_Fu_takePacket_58 rfl rfl ?_
        refine zx_get (q := 63) dd_Fu_takePacket_60 rfl fl_Fu_192 (at_t1 hf ho) rfl ?_
        refine zx_cV1v (q := 66) dd_Fu_takePacket_63 rfl cv_Fu_takePacket_204 ⟨rfl, rfl⟩ (at_f4 hf) rfl rfl (Nat.le_of_ble_eq_true rfl) ⟨Nat.zero_le _, Nat.zero_le _⟩ (ok1_Ms_copy hf ho ⟨rfl, ?_⟩)
        refine zx_aload_n (q := 67) dd_Fu_takePacket_66 rfl rfl ?_
        refine zx_dup (q := 68) dd_Fu_takePacket_67 rfl rfl ?_
        refine zx_get (q := 71) dd_Fu_takePacket_68 rfl fl_Fu_62 (at_f0 hf) rfl ?_
        refine zx_iconst (nI 1) (q := 72) dd_Fu_takePacket_71 rfl (by decide) ?_
        refine zx_iadd (q := 73) dd_Fu_takePacket_72 rfl ?_
        refine zx_put (q := 76) dd_Fu_takePacket_73 rfl fl_Fu_62 (at_f0 hf) rfl rfl (Nat.le_of_ble_eq_true rfl) (up_f0 hf) ?_
        refine zx_iincC_5 2 (q := 79) dd_Fu_takePacket_76 rfl rfl (by decide) rfl ?_
        refine zx_goto 3 dd_Fu_takePacket_79 (by decide) ?_
        refine zx_iload (q := 5) dd_Fu_takePacket_3 rfl rfl ?_
        refine zx_iconst (nI 2) (q := 6) dd_Fu_takePacket_5 rfl (by decide) ?_
        refine zx_icmp_ge 82 (q := 9) dd_Fu_takePacket_6 rfl (by decide) (fun hc9 => ?_) (fun hc9 => absurd (by decide) hc9)
        exact zx_vret dd_Fu_takePacket_82 rfl (hq _ _ _ _ _ _ _ _ _ _ _ _ _ (by first | (simp [pf_packet, pf_pkt, he24, hc2, he25, hc4, he26, hc7]; done) | (clear hq; simp_all [pf_packet, pf_pkt]; done)) hw)
  · skip
    replace hc2 := zb_n0.mp hc2
    refine zx_iload_n (q := 29) dd_Fu_takePacket_28 rfl rfl ?_
    refine zx_if_eq 41 (q := 32) dd_Fu_takePacket_29 rfl (by decide) (fun hc10 => absurd hc10 (by decide)) (fun hc10 => ?_)
    refine zx_aload (q := 34) dd_Fu_takePacket_32 rfl rfl ?_
    refine zx_lload_n (q := 35) dd_Fu_takePacket_34 rfl rfl ?_
    refine zx_cV1i (q := 38) dd_Fu_takePacket_35 rfl cv_Fu_takePacket_198 ⟨rfl, rfl⟩ (at_t0 hf ho) rfl rfl (Nat.le_of_ble_eq_true rfl) ⟨Nat.zero_le _, Nat.zero_le _⟩ (ok0_In_takeToAll hf ho hex0 fun r27 x27 he27 => ⟨_, rfl, ?_⟩)
    obtain ⟨⟨pk_27, so_27, gr_27, si_27, ta_27⟩, op_27, he_27, ex_27, lt_27, ak_27, du_27⟩ := x27
    refine zx_goto 47 dd_Fu_takePacket_38 (by decide) ?_
    refine zx_istore_7 (q := 49) dd_Fu_takePacket_47 rfl (by decide) rfl ?_
    refine zx_iload (q := 51) dd_Fu_takePacket_49 rfl rfl ?_
    refine zx_if_eq 76 (q := 54) dd_Fu_takePacket_51 rfl (by decide) (fun hc11 => ?_) (fun hc11 => ?_)
    · skip
      replace hc11 := zb_0.mp hc11
      refine zx_iincC_5 1 (q := 79) dd_Fu_takePacket_76 rfl rfl (by decide) rfl ?_
      refine zx_goto 3 dd_Fu_takePacket_79 (by decide) ?_
      refine zx_iload (q := 5) dd_Fu_takePacket_3 rfl rfl ?_
      refine zx_iconst (nI 2) (q := 6) dd_Fu_takePacket_5 rfl (by decide) ?_
      refine zx_icmp_ge 82 (q := 9) dd_Fu_takePacket_6 rfl (by decide) (fun hc12 => absurd hc12 (by decide)) (fun hc12 => ?_)
      refine zx_aload_n (q := 10) dd_Fu_takePacket_9 rfl rfl ?_
      refine zx_get (q := 13) dd_Fu_takePacket_10 rfl fl_Fu_17 (at_f0 hf) rfl ?_
      refine zx_iload (q := 15) dd_Fu_takePacket_13 rfl rfl ?_
      refine zx_aald (q := 16) dd_Fu_takePacket_15 rfl (fun _ => rfl) (at_f3 hf) rfl (by decide) (by decide) ord_1 ?_
      refine zx_astore_6 (q := 18) dd_Fu_takePacket_16 rfl (by decide) rfl ?_
      refine zx_aload (q := 20) dd_Fu_takePacket_18 rfl rfl ?_
      refine zx_iload_n (q := 21) dd_Fu_takePacket_20 rfl rfl ?_
      refine zx_iload_n (q := 22) dd_Fu_takePacket_21 rfl rfl ?_
      refine zx_cV2i (q := 25) dd_Fu_takePacket_22 rfl cv_Fu_takePacket_172 ⟨rfl, rfl⟩ (at_t1 hf ho) rfl rfl (Nat.le_of_ble_eq_true rfl) ⟨Nat.zero_le _, Nat.zero_le _⟩ (ok1_In_isFrom hf ho fun r28 he28 => ⟨_, rfl, ?_⟩)
      refine zx_if_eq 76 (q := 28) dd_Fu_takePacket_25 rfl (by decide) (fun hc13 => ?_) (fun hc13 => ?_)
      · skip
        replace hc13 := zb_0.mp hc13
        refine zx_iincC_5 2 (q := 79) dd_Fu_takePacket_76 rfl rfl (by decide) rfl ?_
        refine zx_goto 3 dd_Fu_takePacket_79 (by decide) ?_
        refine zx_iload (q := 5) dd_Fu_takePacket_3 rfl rfl ?_
        refine zx_iconst (nI 2) (q := 6) dd_Fu_takePacket_5 rfl (by decide) ?_
        refine zx_icmp_ge 82 (q := 9) dd_Fu_takePacket_6 rfl (by decide) (fun hc14 => ?_) (fun hc14 => absurd (by decide) hc14)
        exact zx_vret dd_Fu_takePacket_82 rfl (hq _ _ _ _ _ _ _ _ _ _ _ _ _ (by first | (simp [pf_packet, pf_pkt, he24, hc2, he27, hc11, he28, hc13]; done) | (clear hq; simp_all [pf_packet, pf_pkt]; done)) hw)
      · skip
        replace hc13 := zb_n0.mp hc13
        refine zx_iload_n (q := 29) dd_Fu_takePacket_28 rfl rfl ?_
        refine zx_if_eq 41 (q := 32) dd_Fu_takePacket_29 rfl (by decide) (fun hc15 => absurd hc15 (by decide)) (fun hc15 => ?_)
        refine zx_aload (q := 34) dd_Fu_takePacket_32 rfl rfl ?_
        refine zx_lload_n (q := 35) dd_Fu_takePacket_34 rfl rfl ?_
        refine zx_cV1i (q := 38) dd_Fu_takePacket_35 rfl cv_Fu_takePacket_198 ⟨rfl, rfl⟩ (at_t1 hf ho) rfl rfl (Nat.le_of_ble_eq_true rfl) ⟨Nat.zero_le _, Nat.zero_le _⟩ (ok1_In_takeToAll hf ho hex1 fun r29 x29 he29 => ⟨_, rfl, ?_⟩)
        obtain ⟨⟨pk_29, so_29, gr_29, si_29, ta_29⟩, op_29, he_29, ex_29, lt_29, ak_29, du_29⟩ := x29
        refine zx_goto 47 dd_Fu_takePacket_38 (by decide) ?_
        refine zx_istore_7 (q := 49) dd_Fu_takePacket_47 rfl (by decide) rfl ?_
        refine zx_iload (q := 51) dd_Fu_takePacket_49 rfl rfl ?_
        refine zx_if_eq 76 (q := 54) dd_Fu_takePacket_51 rfl (by decide) (fun hc16 => ?_) (fun hc16 => ?_)
        · skip
          replace hc16 := zb_0.mp hc16
          refine zx_iincC_5 2 (q := 79) dd_Fu_takePacket_76 rfl rfl (by decide) rfl ?_
          refine zx_goto 3 dd_Fu_takePacket_79 (by decide) ?_
          refine zx_iload (q := 5) dd_Fu_takePacket_3 rfl rfl ?_
          refine zx_iconst (nI 2) (q := 6) dd_Fu_takePacket_5 rfl (by decide) ?_
          refine zx_icmp_ge 82 (q := 9) dd_Fu_takePacket_6 rfl (by decide) (fun hc17 => ?_) (fun hc17 => absurd (by decide) hc17)
          exact zx_vret dd_Fu_takePacket_82 rfl (hq _ _ _ _ _ _ _ _ _ _ _ _ _ (by first | (simp [pf_packet, pf_pkt, he24, hc2, he27, hc11, he28, hc13, he29, hc16]; done) | (clear hq; simp_all [pf_packet, pf_pkt]; done)) hw)
        · skip
          replace hc16 := zb_n0.mp hc16
          refine zx_aload_n (q := 55) dd_Fu_takePacket_54 rfl rfl ?_
          refine zx_get (q := 58) dd_Fu_takePacket_55 rfl fl_Fu_24 (at_f0 hf) rfl ?_
          refine zx_aload (q := 60) dd_Fu_takePacket_58 rfl rfl ?_
          refine zx_get (q := 63) dd_Fu_takePacket_60 rfl fl_Fu_192 (at_t1 hf ho) rfl ?_
          refine zx_cV1v (q := 66) dd_Fu_takePacket_63 rfl cv_Fu_takePacket_204 ⟨rfl, rfl⟩ (at_f4 hf) rfl rfl (Nat.le_of_ble_eq_true rfl) ⟨Nat.zero_le _, Nat.zero_le _⟩ (ok1_Ms_copy hf ho ⟨rfl, ?_⟩)
          refine zx_aload_n (q := 67) dd_Fu_takePacket_66 rfl rfl ?_
          refine zx_dup (q := 68) dd_Fu_takePacket_67 rfl rfl ?_
          refine zx_get (q := 71) dd_Fu_takePacket_68 rfl fl_Fu_62 (at_f0 hf) rfl ?_
          refine zx_iconst (nI 1) (q := 72) dd_Fu_takePacket_71 rfl (by decide) ?_
          refine zx_iadd (q := 73) dd_Fu_takePacket_72 rfl ?_
          refine zx_put (q := 76) dd_Fu_takePacket_73 rfl fl_Fu_62 (at_f0 hf) rfl rfl (Nat.le_of_ble_eq_true rfl) (up_f0 hf) ?_
          refine zx_iincC_5 2 (q := 79) dd_Fu_takePacket_76 rfl rfl (by decide) rfl ?_
          refine zx_goto 3 dd_Fu_takePacket_79 (by decide) ?_
          refine zx_iload (q := 5) dd_Fu_takePacket_3 rfl rfl ?_
          refine zx_iconst (nI 2) (q := 6) dd_Fu_takePacket_5 rfl (by decide) ?_
          refine zx_icmp_ge 82 (q := 9) dd_Fu_takePacket_6 rfl (by decide) (fun hc18 => ?_) (fun hc18 => absurd (by decide) hc18)
          exact zx_vret dd_Fu_takePacket_82 rfl (hq _ _ _ _ _ _ _ _ _ _ _ _ _ (by first | (simp [pf_packet, pf_pkt, he24, hc2, he27, hc11, he28, hc13, he29, hc16]; done) | (clear hq; simp_all [pf_packet, pf_pkt]; done)) hw)
    · skip
      replace hc11 := zb_n0.mp hc11
      refine zx_aload_n (q := 55) dd_Fu_takePacket_54 rfl rfl ?_
      refine zx_get (q := 58) dd_Fu_takePacket_55 rfl fl_Fu_24 (at_f0 hf) rfl ?_
      refine zx_aload (q := 60) dd_Fu_takePacket_58 rfl rfl ?_
      refine zx_get (q := 63) dd_Fu_takePacket_60 rfl fl_Fu_192 (at_t0 hf ho) rfl ?_
      refine zx_cV1v (q := 66) dd_Fu_takePacket_63 rfl cv_Fu_takePacket_204 ⟨rfl, rfl⟩ (at_f4 hf) rfl rfl (Nat.le_of_ble_eq_true rfl) ⟨Nat.zero_le _, Nat.zero_le _⟩ (ok0_Ms_copy hf ho ⟨rfl, ?_⟩)
      refine zx_aload_n (q := 67) dd_Fu_takePacket_66 rfl rfl ?_
      refine zx_dup (q := 68) dd_Fu_takePacket_67 rfl rfl ?_
      refine zx_get (q := 71) dd_Fu_takePacket_68 rfl fl_Fu_62 (at_f0 hf) rfl ?_
      refine zx_iconst (nI 1) (q := 72) dd_Fu_takePacket_71 rfl (by decide) ?_
      refine zx_iadd (q := 73) dd_Fu_takePacket_72 rfl ?_
      refine zx_put (q := 76) dd_Fu_takePacket_73 rfl fl_Fu_62 (at_f0 hf) rfl rfl (Nat.le_of_ble_eq_true rfl) (up_f0 hf) ?_
      refine zx_iincC_5 1 (q := 79) dd_Fu_takePacket_76 rfl rfl (by decide) rfl ?_
      refine zx_goto 3 dd_Fu_takePacket_79 (by decide) ?_
      refine zx_iload (q := 5) dd_Fu_takePacket_3 rfl rfl ?_
      refine zx_iconst (nI 2) (q := 6) dd_Fu_takePacket_5 rfl (by decide) ?_
      refine zx_icmp_ge 82 (q := 9) dd_Fu_takePacket_6 rfl (by decide) (fun hc19 => absurd hc19 (by decide)) (fun hc19 => ?_)
      refine zx_aload_n (q := 10) dd_Fu_takePacket_9 rfl rfl ?_
      refine zx_get (q := 13) dd_Fu_takePacket_10 rfl fl_Fu_17 (at_f0 hf) rfl ?_
      refine zx_iload (q := 15) dd_Fu_takePacket_13 rfl rfl ?_
      refine zx_aald (q := 16) dd_Fu_takePacket_15 rfl (fun _ => rfl) (at_f3 hf) rfl (by decide) (by decide) ord_1 ?_
      refine zx_astore_6 (q := 18) dd_Fu_takePacket_16 rfl (by decide) rfl ?_
      refine zx_aload (q := 20) dd_Fu_takePacket_18 rfl rfl ?_
      refine zx_iload_n (q := 21) dd_Fu_takePacket_20 rfl rfl ?_
      refine zx_iload_n (q := 22) dd_Fu_takePacket_21 rfl rfl ?_
      refine zx_cV2i (q := 25) dd_Fu_takePacket_22 rfl cv_Fu_takePacket_172 ⟨rfl, rfl⟩ (at_t1 hf ho) rfl rfl (Nat.le_of_ble_eq_true rfl) ⟨Nat.zero_le _, Nat.zero_le _⟩ (ok1_In_isFrom hf ho fun r30 he30 => ⟨_, rfl, ?_⟩)
      refine zx_if_eq 76 (q := 28) dd_Fu_takePacket_25 rfl (by decide) (fun hc20 => ?_) (fun hc20 => ?_)
      · skip
        replace hc20 := zb_0.mp hc20
        refine zx_iincC_5 2 (q := 79) dd_Fu_takePacket_76 rfl rfl (by decide) rfl ?_
        refine zx_goto 3 dd_Fu_takePacket_79 (by decide) ?_
        refine zx_iload (q := 5) dd_Fu_takePacket_3 rfl rfl ?_
        refine zx_iconst (nI 2) (q := 6) dd_Fu_takePacket_5 rfl (by decide) ?_
        refine zx_icmp_ge 82 (q := 9) dd_Fu_takePacket_6 rfl (by decide) (fun hc21 => ?_) (fun hc21 => absurd (by decide) hc21)
        exact zx_vret dd_Fu_takePacket_82 rfl (hq _ _ _ _ _ _ _ _ _ _ _ _ _ (by first | (simp [pf_packet, pf_pkt, he24, hc2, he27, hc11, he30, hc20]; done) | (clear hq; simp_all [pf_packet, pf_pkt]; done)) hw)
      · skip
        replace hc20 := zb_n0.mp hc20
        refine zx_iload_n (q := 29) dd_Fu_takePacket_28 rfl rfl ?_
        refine zx_if_eq 41 (q := 32) dd_Fu_takePacket_29 rfl (by decide) (fun hc22 => absurd hc22 (by decide)) (fun hc22 => ?_)
        refine zx_aload (q := 34) dd_Fu_takePacket_32 rfl rfl ?_
        refine zx_lload_n (q := 35) dd_Fu_takePacket_34 rfl rfl ?_
        refine zx_cV1i (q := 38) dd_Fu_takePacket_35 rfl cv_Fu_takePacket_198 ⟨rfl, rfl⟩ (at_t1 hf ho) rfl rfl (Nat.le_of_ble_eq_true rfl) ⟨Nat.zero_le _, Nat.zero_le _⟩ (ok1_In_takeToAll hf ho hex1 fun r31 x31 he31 => ⟨_, rfl, ?_⟩)
        obtain ⟨⟨pk_31, so_31, gr_31, si_31, ta_31⟩, op_31, he_31, ex_31, lt_31, ak_31, du_31⟩ := x31
        refine zx_goto 47 dd_Fu_takePacket_38 (by decide) ?_
        refine zx_istore_7 (q := 49) dd_Fu_takePacket_47 rfl (by decide) rfl ?_
        refine zx_iload (q := 51) dd_Fu_takePacket_49 rfl rfl ?_
        refine zx_if_eq 76 (q := 54) dd_Fu_takePacket_51 rfl (by decide) (fun hc23 => ?_) (fun hc23 => ?_)
        · skip
          replace hc23 := zb_0.mp hc23
          refine zx_iincC_5 2 (q := 79) dd_Fu_takePacket_76 rfl rfl (by decide) rfl ?_
          refine zx_goto 3 dd_Fu_takePacket_79 (by decide) ?_
          refine zx_iload (q := 5) dd_Fu_takePacket_3 rfl rfl ?_
          refine zx_iconst (nI 2) (q := 6) dd_Fu_takePacket_5 rfl (by decide) ?_
          refine zx_icmp_ge 82 (q := 9) dd_Fu_takePacket_6 rfl (by decide) (fun hc24 => ?_) (fun hc24 => absurd (by decide) hc24)
          exact zx_vret dd_Fu_takePacket_82 rfl (hq _ _ _ _ _ _ _ _ _ _ _ _ _ (by first | (simp [pf_packet, pf_pkt, he24, hc2, he27, hc11, he30, hc20, he31, hc23]; done) | (clear hq; simp_all [pf_packet, pf_pkt]; done)) hw)
        · skip
          replace hc23 := zb_n0.mp hc23
          refine zx_aload_n (q := 55) dd_Fu_takePacket_54 rfl rfl ?_
          refine zx_get (q := 58) dd_Fu_takePacket_55 rfl fl_Fu_24 (at_f0 hf) rfl ?_
          refine zx_aload (q := 60) dd_Fu_takePacket_58 rfl rfl ?_
          refine zx_get (q := 63) dd_Fu_takePacket_60 rfl fl_Fu_192 (at_t1 hf ho) rfl ?_
          refine zx_cV1v (q := 66) dd_Fu_takePacket_63 rfl cv_Fu_takePacket_204 ⟨rfl, rfl⟩ (at_f4 hf) rfl rfl (Nat.le_of_ble_eq_true rfl) ⟨Nat.zero_le _, Nat.zero_le _⟩ (ok1_Ms_copy hf ho ⟨rfl, ?_⟩)
          refine zx_aload_n (q := 67) dd_Fu_takePacket_66 rfl rfl ?_
          refine zx_dup (q := 68) dd_Fu_takePacket_67 rfl rfl ?_
          refine zx_get (q := 71) dd_Fu_takePacket_68 rfl fl_Fu_62 (at_f0 hf) rfl ?_
          refine zx_iconst (nI 1) (q := 72) dd_Fu_takePacket_71 rfl (by decide) ?_
          refine zx_iadd (q := 73) dd_Fu_takePacket_72 rfl ?_
          refine zx_put (q := 76) dd_Fu_takePacket_73 rfl fl_Fu_62 (at_f0 hf) rfl rfl (Nat.le_of_ble_eq_true rfl) (up_f0 hf) ?_
          refine zx_iincC_5 2 (q := 79) dd_Fu_takePacket_76 rfl rfl (by decide) rfl ?_
          refine zx_goto 3 dd_Fu_takePacket_79 (by decide) ?_
          refine zx_iload (q := 5) dd_Fu_takePacket_3 rfl rfl ?_
          refine zx_iconst (nI 2) (q := 6) dd_Fu_takePacket_5 rfl (by decide) ?_
          refine zx_icmp_ge 82 (q := 9) dd_Fu_takePacket_6 rfl (by decide) (fun hc25 => ?_) (fun hc25 => absurd (by decide) hc25)
          exact zx_vret dd_Fu_takePacket_82 rfl (hq _ _ _ _ _ _ _ _ _ _ _ _ _ (by first | (simp [pf_packet, pf_pkt, he24, hc2, he27, hc11, he30, hc20, he31, hc23]; done) | (clear hq; simp_all [pf_packet, pf_pkt]; done)) hw)
set_option maxRecDepth 100000 in
set_option maxHeartbeats 4000000 in
theorem ok0_Fu_takePacket {E : zxE} {b f n : Nat} {F : Nat → zFn} {D : zMd} {B : zB} {ad : Int32} {bz : Bool} {nt : Nat → Int32} {o : Nat} {la : zMs} {ou : zOu} {x0 x1 : zIn} {de st : Int32} {nm hd : Int64} {Q : Option Value → zxH → Nat → Prop} {s : Int32} {d : Int64} (hf : f < 5) (ho : o ≤ 1) (hw : B.2.2.2.1 ≤ 48) (hex0 : x0.2.2.2.1 < 100000) (hex1 : x1.2.2.2.1 < 100000) (hq : ∀ B' ad' bz' nt' o' la' ou' x0' x1' de' st' nm' hd', pf_packet B (nI f) (ad, bz, nt, o, la, ou, x0, x1, de, st, nm, hd) s false d = (B', (ad', bz', nt', o', la', ou', x0', x1', de', st', nm', hd')) → B'.2.2.2.1 ≤ 48 → Q none (zs b (B', foc F f (ad', bz', nt', o', la', ou', tw o' x0' x1', de', st', nm', hd'), D)) n) : zx_Ok E my_Fu_takePacket mi_Fu_takePacket [.ref (fa b f 0), .int s, .int (zb false), .long d] (zs b (B, foc F f (ad, bz, nt, o, la, ou, tw o x0 x1, de, st, nm, hd), D)) n Q := by
  obtain ⟨ids, con, snd, cnt, ovf, now⟩ := B
  obtain ⟨⟨pk0, so0, gr0, si0, ta0⟩, op0, he0, ex0, lt0, ak0, du0⟩ := x0
  obtain ⟨⟨pk1, so1, gr1, si1, ta1⟩, op1, he1, ex1, lt1, ak1, du1⟩ := x1
  obtain ⟨pkl, sol, grl, sil, tal⟩ := la
  refine zx_start [some (.ref (fa b f 0)), some (.int s), some (.int (zb false)), some (.long d), none, none, none, none] (by decide) rfl rfl (Nat.le_of_ble_eq_true rfl) rfl ?_
  refine zx_iconst (nI 0) (q := 1) dd_Fu_takePacket_0 rfl (by decide) ?_
  refine zx_istore_5 (q := 3) dd_Fu_takePacket_1 rfl (by decide) rfl ?_
  refine zx_iload (q := 5) dd_Fu_takePacket_3 rfl rfl ?_
  refine zx_iconst (nI 2) (q := 6) dd_Fu_takePacket_5 rfl (by decide) ?_
  refine zx_icmp_ge 82 (q := 9) dd_Fu_takePacket_6 rfl (by decide) (fun hc1 => absurd hc1 (by decide)) (fun hc1 => ?_)
  refine zx_aload_n (q := 10) dd_Fu_takePacket_9 rfl rfl ?_
  refine zx_get (q := 13) dd_Fu_takePacket_10 rfl fl_Fu_17 (at_f0 hf) rfl ?_
  refine zx_iload (q := 15) dd_Fu_takePacket_13 rfl rfl ?_
  refine zx_aald (q := 16) dd_Fu_takePacket_15 rfl (fun _ => rfl) (at_f3 hf) rfl (by decide) (by decide) ord_0 ?_
  refine zx_astore_6 (q := 18) dd_Fu_takePacket_16 rfl (by decide) rfl ?_
  refine zx_aload (q := 20) dd_Fu_takePacket_18 rfl rfl ?_
  refine zx_iload_n (q := 21) dd_Fu_takePacket_20 rfl rfl ?_
  refine zx_iload_n (q := 22) dd_Fu_takePacket_21 rfl rfl ?_
  refine zx_cV2i (q := 25) dd_Fu_takePacket_22 rfl cv_Fu_takePacket_172 ⟨rfl, rfl⟩ (at_t0 hf ho) rfl rfl (Nat.le_of_ble_eq_true rfl) ⟨Nat.zero_le _, Nat.zero_le _⟩ (ok0_In_isFrom hf ho fun r32 he32 => ⟨_, rfl, ?_⟩)
  refine zx_if_eq 76 (q := 28) dd_Fu_takePacket_25 rfl (by decide) (fun hc2 => ?_) (fun hc2 => ?_)
  · skip
    replace hc2 := zb_0.mp hc2
    refine zx_iincC_5 1 (q := 79) dd_Fu_takePacket_76 rfl rfl (by decide) rfl ?_
    refine zx_goto 3 dd_Fu_takePacket_79 (by decide) ?_
    refine zx_iload (q := 5) dd_Fu_takePacket_3 rfl rfl ?_
    refine zx_iconst (nI 2) (q := 6) dd_Fu_takePacket_5 rfl (by decide) ?_
    refine zx_icmp_ge 82 (q := 9) dd_Fu_takePacket_6 rfl (by decide) (fun hc3 => absurd hc3 (by decide)) (fun hc3 => ?_)
    refine zx_aload_n (q := 10) dd_Fu_takePacket_9 rfl rfl ?_
    refine zx_get (q := 13) dd_Fu_takePacket_10 rfl fl_Fu_17 (at_f0 hf) rfl ?_
    refine zx_iload (q := 15) dd_Fu_takePacket_13 rfl rfl ?_
    refine zx_aald (q := 16) dd_Fu_takePacket_15 rfl (fun _ => rfl) (at_f3 hf) rfl (by decide) (by decide) ord_1 ?_
    refine zx_astore_6 (q := 18) dd_Fu_takePacket_16 rfl (by decide) rfl ?_
    refine zx_aload (q := 20) dd_Fu_takePacket_18 rfl rfl ?_
    refine zx_iload_n (q := 21) dd_Fu_takePacket_20 rfl rfl ?_
    refine zx_iload_n (q := 22) dd_Fu_takePacket_21 rfl rfl ?_
    refine zx_cV2i (q := 25) dd_Fu_takePacket_22 rfl cv_Fu_takePacket_172 ⟨rfl, rfl⟩ (at_t1 hf ho) rfl rfl (Nat.le_of_ble_eq_true rfl) ⟨Nat.zero_le _, Nat.zero_le _⟩ (ok1_In_isFrom hf ho fun r33 he33 => ⟨_, rfl, ?_⟩)
    refine zx_if_eq 76 (q := 28) dd_Fu_takePacket_25 rfl (by decide) (fun hc4 => ?_) (fun hc4 => ?_)
    · skip
      replace hc4 := zb_0.mp hc4
      refine zx_iincC_5 2 (q := 79) dd_Fu_takePacket_76 rfl rfl (by decide) rfl ?_
      refine zx_goto 3 dd_Fu_takePacket_79 (by decide) ?_
      refine zx_iload (q := 5) dd_Fu_takePacket_3 rfl rfl ?_
      refine zx_iconst (nI 2) (q := 6) dd_Fu_takePacket_5 rfl (by decide) ?_
      refine zx_icmp_ge 82 (q := 9) dd_Fu_takePacket_6 rfl (by decide) (fun hc5 => ?_) (fun hc5 => absurd (by decide) hc5)
      exact zx_vret dd_Fu_takePacket_82 rfl (hq _ _ _ _ _ _ _ _ _ _ _ _ _ (by first | (simp [pf_packet, pf_pkt, he32, hc2, he33, hc4]; done) | (clear hq; simp_all [pf_packet, pf_pkt]; done)) hw)
    · skip
      replace hc4 := zb_n0.mp hc4
      refine zx_iload_n (q := 29) dd_Fu_takePacket_28 rfl rfl ?_
      refine zx_if_eq 41 (q := 32) dd_Fu_takePacket_29 rfl (by decide) (fun hc6 => ?_) (fun hc6 => absurd (by decide) hc6)
      refine zx_aload (q := 43) dd_Fu_takePacket_41 rfl rfl ?_
      refine zx_lload_n (q := 44) dd_Fu_takePacket_43 rfl rfl ?_
      refine zx_cV1i (q := 47) dd_Fu_takePacket_44 rfl cv_Fu_takePacket_201 ⟨rfl, rfl⟩ (at_t1 hf ho) rfl rfl (Nat.le_of_ble_eq_true rfl) ⟨Nat.zero_le _, Nat.zero_le _⟩ (ok1_In_takeDirected hf ho hw hex1 fun r34 B34 x34 he34 hw34 => ⟨_, rfl, ?_⟩)
      obtain ⟨ids34, con34, snd34, cnt34, ovf34, now34⟩ := B34
      obtain ⟨⟨pk_34, so_34, gr_34, si_34, ta_34⟩, op_34, he_34, ex_34, lt_34, ak_34, du_34⟩ := x34
      refine zx_istore_7 (q := 49) dd_Fu_takePacket_47 rfl (by decide) rfl ?_
      refine zx_iload (q := 51) dd_Fu_takePacket_49 rfl rfl ?_
      refine zx_if_eq 76 (q := 54) dd_Fu_takePacket_51 rfl (by decide) (fun hc7 => ?_) (fun hc7 => ?_)
      · skip
        replace hc7 := zb_0.mp hc7
        refine zx_iincC_5 2 (q := 79) dd_Fu_takePacket_76 rfl rfl (by decide) rfl ?_
        refine zx_goto 3 dd_Fu_takePacket_79 (by decide) ?_
        refine zx_iload (q := 5) dd_Fu_takePacket_3 rfl rfl ?_
        refine zx_iconst (nI 2) (q := 6) dd_Fu_takePacket_5 rfl (by decide) ?_
        refine zx_icmp_ge 82 (q := 9) dd_Fu_takePacket_6 rfl (by decide) (fun hc8 => ?_) (fun hc8 => absurd (by decide) hc8)
        exact zx_vret dd_Fu_takePacket_82 rfl (hq _ _ _ _ _ _ _ _ _ _ _ _ _ (by first | (simp [pf_packet, pf_pkt, he32, hc2, he33, hc4, he34, hc7]; done) | (clear hq; simp_all [pf_packet, pf_pkt]; done)) hw34)
      · skip
        replace hc7 := zb_n0.mp hc7
        refine zx_aload_n (q := 55) dd_Fu_takePacket_54 rfl rfl ?_
        refine zx_get (q := 58) dd_Fu_takePacket_55 rfl fl_Fu_24 (at_f0 hf) rfl ?_
        refine zx_aload (q := 60) dd_Fu_takePacket_58 rfl rfl ?_
        refine zx_get (q := 63) dd_Fu_takePacket_60 rfl fl_Fu_192 (at_t1 hf ho) rfl ?_
        refine zx_cV1v (q := 66) dd_Fu_takePacket_63 rfl cv_Fu_takePacket_204 ⟨rfl, rfl⟩ (at_f4 hf) rfl rfl (Nat.le_of_ble_eq_true rfl) ⟨Nat.zero_le _, Nat.zero_le _⟩ (ok1_Ms_copy hf ho ⟨rfl, ?_⟩)
        refine zx_aload_n (q := 67) dd_Fu_takePacket_66 rfl rfl ?_
        refine zx_dup (q := 68) dd_Fu_takePacket_67 rfl rfl ?_
        refine zx_get (q := 71) dd_Fu_takePacket_68 rfl fl_Fu_62 (at_f0 hf) rfl ?_
        refine zx_iconst (nI 1) (q := 72) dd_Fu_takePacket_71 rfl (by decide) ?_
        refine zx_iadd (q := 73) dd_Fu_takePacket_72 rfl ?_
        refine zx_put (q := 76) dd_Fu_takePacket_73 rfl fl_Fu_62 (at_f0 hf) rfl rfl (Nat.le_of_ble_eq_true rfl) (up_f0 hf) ?_
        refine zx_iincC_5 2 (q := 79) dd_Fu_takePacket_76 rfl rfl (by decide) rfl ?_
        refine zx_goto 3 dd_Fu_takePacket_79 (by decide) ?_
        refine zx_iload (q := 5) dd_Fu_takePacket_3 rfl rfl ?_
        refine zx_iconst (nI 2) (q := 6) dd_Fu_takePacket_5 rfl (by decide) ?_
        refine zx_icmp_ge 82 (q := 9) dd_Fu_takePacket_6 rfl (by decide) (fun hc9 => ?_) (fun hc9 => absurd (by decide) hc9)
        exact zx_vret dd_Fu_takePacket_82 rfl (hq _ _ _ _ _ _ _ _ _ _ _ _ _ (by first | (simp [pf_packet, pf_pkt, he32, hc2, he33, hc4, he34, hc7]; done) | (clear hq; simp_all [pf_packet, pf_pkt]; done)) hw34)
  · skip
    replace hc2 := zb_n0.mp hc2
    refine zx_iload_n (q := 29) dd_Fu_takePacket_28 rfl rfl ?_
    refine zx_if_eq 41 (q := 32) dd_Fu_takePacket_29 rfl (by decide) (fun hc10 => ?_) (fun hc10 => absurd (by decide) hc10)
    refine zx_aload (q := 43) dd_Fu_takePacket_41 rfl rfl ?_
    refine zx_lload_n (q := 44) dd_Fu_takePacket_43 rfl rfl ?_
    refine zx_cV1i (q := 47) dd_Fu_takePacket_44 rfl cv_Fu_takePacket_201 ⟨rfl, rfl⟩ (at_t0 hf ho) rfl rfl (Nat.le_of_ble_eq_true rfl) ⟨Nat.zero_le _, Nat.zero_le _⟩ (ok0_In_takeDirected hf ho hw hex0 fun r35 B35 x35 he35 hw35 => ⟨_, rfl, ?_⟩)
    obtain ⟨ids35, con35, snd35, cnt35, ovf35, now35⟩ := B35
    obtain ⟨⟨pk_35, so_35, gr_35, si_35, ta_35⟩, op_35, he_35, ex_35, lt_35, ak_35, du_35⟩ := x35
    refine zx_istore_7 (q := 49) dd_Fu_takePacket_47 rfl (by decide) rfl ?_
    refine zx_iload (q := 51) dd_Fu_takePacket_49 rfl rfl ?_
    refine zx_if_eq 76 (q := 54) dd_Fu_takePacket_51 rfl (by decide) (fun hc11 => ?_) (fun hc11 => ?_)
    · skip
      replace hc11 := zb_0.mp hc11
      refine zx_iincC_5 1 (q := 79) dd_Fu_takePacket_76 rfl rfl (by decide) rfl ?_
      refine zx_goto 3 dd_Fu_takePacket_79 (by decide) ?_
      refine zx_iload (q := 5) dd_Fu_takePacket_3 rfl rfl ?_
      refine zx_iconst (nI 2) (q := 6) dd_Fu_takePacket_5 rfl (by decide) ?_
      refine zx_icmp_ge 82 (q := 9) dd_Fu_takePacket_6 rfl (by decide) (fun hc12 => absurd hc12 (by decide)) (fun hc12 => ?_)
      refine zx_aload_n (q := 10) dd_Fu_takePacket_9 rfl rfl ?_
      refine zx_get (q := 13) dd_Fu_takePacket_10 rfl fl_Fu_17 (at_f0 hf) rfl ?_
      refine zx_iload (q := 15) dd_Fu_takePacket_13 rfl rfl ?_
      refine zx_aald (q := 16) dd_Fu_takePacket_15 rfl (fun _ => rfl) (at_f3 hf) rfl (by decide) (by decide) ord_1 ?_
      refine zx_astore_6 (q := 18) dd_Fu_takePacket_16 rfl (by decide) rfl ?_
      refine zx_aload (q := 20) dd_Fu_takePacket_18 rfl rfl ?_
      refine zx_iload_n (q := 21) dd_Fu_takePacket_20 rfl rfl ?_
      refine zx_iload_n (q := 22) dd_Fu_takePacket_21 rfl rfl ?_
      refine zx_cV2i (q := 25) dd_Fu_takePacket_22 rfl cv_Fu_takePacket_172 ⟨rfl, rfl⟩ (at_t1 hf ho) rfl rfl (Nat.le_of_ble_eq_true rfl) ⟨Nat.zero_le _, Nat.zero_le _⟩ (ok1_In_isFrom hf ho fun r36 he36 => ⟨_, rfl, ?_⟩)
      refine zx_if_eq 76 (q := 28) dd_Fu_takePacket_25 rfl (by decide) (fun hc13 => ?_) (fun hc13 => ?_)
      · skip
        replace hc13 := zb_0.mp hc13
        refine zx_iincC_5 2 (q := 79) dd_Fu_takePacket_76 rfl rfl (by decide) rfl ?_
        refine zx_goto 3 dd_Fu_takePacket_79 (by decide) ?_
        refine zx_iload (q := 5) dd_Fu_takePacket_3 rfl rfl ?_
        refine zx_iconst (nI 2) (q := 6) dd_Fu_takePacket_5 rfl (by decide) ?_
        refine zx_icmp_ge 82 (q := 9) dd_Fu_takePacket_6 rfl (by decide) (fun hc14 => ?_) (fun hc14 => absurd (by decide) hc14)
        exact zx_vret dd_Fu_takePacket_82 rfl (hq _ _ _ _ _ _ _ _ _ _ _ _ _ (by first | (simp [pf_packet, pf_pkt, he32, hc2, he35, hc11, he36, hc13]; done) | (clear hq; simp_all [pf_packet, pf_pkt]; done)) hw35)
      · skip
        replace hc13 := zb_n0.mp hc13
        refine zx_iload_n (q := 29) dd_Fu_takePacket_28 rfl rfl ?_
        refine zx_if_eq 41 (q := 32) dd_Fu_takePacket_29 rfl (by decide) (fun hc15 => ?_) (fun hc15 => absurd (by decide) hc15)
        refine zx_aload (q := 43) dd_Fu_takePacket_41 rfl rfl ?_
        refine zx_lload_n (q := 44) dd_Fu_takePacket_43 rfl rfl ?_
        refine zx_cV1i (q := 47) dd_Fu_takePacket_44 rfl cv_Fu_takePacket_201 ⟨rfl, rfl⟩ (at_t1 hf ho) rfl rfl (Nat.le_of_ble_eq_true rfl) ⟨Nat.zero_le _, Nat.zero_le _⟩ (ok1_In_takeDirected hf ho hw35 hex1 fun r37 B37 x37 he37 hw37 => ⟨_, rfl, ?_⟩)
        obtain ⟨ids37, con37, snd37, cnt37, ovf37, now37⟩ := B37
        obtain ⟨⟨pk_37, so_37, gr_37, si_37, ta_37⟩, op_37, he_37, ex_37, lt_37, ak_37, du_37⟩ := x37
        refine zx_istore_7 (q := 49) dd_Fu_takePacket_47 rfl (by decide) rfl ?_
        refine zx_iload (q := 51) dd_Fu_takePacket_49 rfl rfl ?_
        refine zx_if_eq 76 (q := 54) dd_Fu_takePacket_51 rfl (by decide) (fun hc16 => ?_) (fun hc16 => ?_)
        · skip
          replace hc16 := zb_0.mp hc16
          refine zx_iincC_5 2 (q := 79) dd_Fu_takePacket_76 rfl rfl (by decide) rfl ?_
          refine zx_goto 3 dd_Fu_takePacket_79 (by decide) ?_
          refine zx_iload (q := 5) dd_Fu_takePacket_3 rfl rfl ?_
          refine zx_iconst (nI 2) (q := 6) dd_Fu_takePacket_5 rfl (by decide) ?_
          refine zx_icmp_ge 82 (q := 9) dd_Fu_takePacket_6 rfl (by decide) (fun hc17 => ?_) (fun hc17 => absurd (by decide) hc17)
          exact zx_vret dd_Fu_takePacket_82 rfl (hq _ _ _ _ _ _ _ _ _ _ _ _ _ (by first | (simp [pf_packet, pf_pkt, he32, hc2, he35, hc11, he36, hc13, he37, hc16]; done) | (clear hq; simp_all [pf_packet, pf_pkt]; done)) hw37)
        · skip
          replace hc16 := zb_n0.mp hc16
          refine zx_aload_n (q := 55) dd_Fu_takePacket_54 rfl rfl ?_
          refine zx_get (q := 58) dd_Fu_takePacket_55 rfl fl_Fu_24 (at_f0 hf) rfl ?_
          refine zx_aload (q := 60) dd_Fu_takePacket_58 rfl rfl ?_
          refine zx_get (q := 63) dd_Fu_takePacket_60 rfl fl_Fu_192 (at_t1 hf ho) rfl ?_
          refine zx_cV1v (q := 66) dd_Fu_takePacket_63 rfl cv_Fu_takePacket_204 ⟨rfl, rfl⟩ (at_f4 hf) rfl rfl (Nat.le_of_ble_eq_true rfl) ⟨Nat.zero_le _, Nat.zero_le _⟩ (ok1_Ms_copy hf ho ⟨rfl, ?_⟩)
          refine zx_aload_n (q := 67) dd_Fu_takePacket_66 rfl rfl ?_
          refine zx_dup (q := 68) dd_Fu_takePacket_67 rfl rfl ?_
          refine zx_get (q := 71) dd_Fu_takePacket_68 rfl fl_Fu_62 (at_f0 hf) rfl ?_
          refine zx_iconst (nI 1) (q := 72) dd_Fu_takePacket_71 rfl (by decide) ?_
          refine zx_iadd (q := 73) dd_Fu_takePacket_72 rfl ?_
          refine zx_put (q := 76) dd_Fu_takePacket_73 rfl fl_Fu_62 (at_f0 hf) rfl rfl (Nat.le_of_ble_eq_true rfl) (up_f0 hf) ?_
          refine zx_iincC_5 2 (q := 79) dd_Fu_takePacket_76 rfl rfl (by decide) rfl ?_
          refine zx_goto 3 dd_Fu_takePacket_79 (by decide) ?_
          refine zx_iload (q := 5) dd_Fu_takePacket_3 rfl rfl ?_
          refine zx_iconst (nI 2) (q := 6) dd_Fu_takePacket_5 rfl (by decide) ?_
          refine zx_icmp_ge 82 (q := 9) dd_Fu_takePacket_6 rfl (by decide) (fun hc18 => ?_) (fun hc18 => absurd (by decide) hc18)
          exact zx_vret dd_Fu_takePacket_82 rfl (hq _ _ _ _ _ _ _ _ _ _ _ _ _ (by first | (simp [pf_packet, pf_pkt, he32, hc2, he35, hc11, he36, hc13, he37, hc16]; done) | (clear hq; simp_all [pf_packet, pf_pkt]; done)) hw37)
    · skip
      replace hc11 := zb_n0.mp hc11
      refine zx_aload_n (q := 55) dd_Fu_takePacket_54 rfl rfl ?_
      refine zx_get (q := 58) dd_Fu_takePacket_55 rfl fl_Fu_24 (at_f0 hf) rfl ?_
      refine zx_aload (q := 60) dd_Fu_takePacket_58 rfl rfl ?_
      refine zx_get (q := 63) dd_Fu_takePacket_60 rfl fl_Fu_192 (at_t0 hf ho) rfl ?_
      refine zx_cV1v (q := 66) dd_Fu_takePacket_63 rfl cv_Fu_takePacket_204 ⟨rfl, rfl⟩ (at_f4 hf) rfl rfl (Nat.le_of_ble_eq_true rfl) ⟨Nat.zero_le _, Nat.zero_le _⟩ (ok0_Ms_copy hf ho ⟨rfl, ?_⟩)
      refine zx_aload_n (q := 67) dd_Fu_takePacket_66 rfl rfl ?_
      refine zx_dup (q := 68) dd_Fu_takePacket_67 rfl rfl ?_
      refine zx_get (q := 71) dd_Fu_takePacket_68 rfl fl_Fu_62 (at_f0 hf) rfl ?_
      refine zx_iconst (nI 1) (q := 72) dd_Fu_takePacket_71 rfl (by decide) ?_
      refine zx_iadd (q := 73) dd_Fu_takePacket_72 rfl ?_
      refine zx_put (q := 76) dd_Fu_takePacket_73 rfl fl_Fu_62 (at_f0 hf) rfl rfl (Nat.le_of_ble_eq_true rfl) (up_f0 hf) ?_
      refine zx_iincC_5 1 (q := 79) dd_Fu_takePacket_76 rfl rfl (by decide) rfl ?_
      refine zx_goto 3 dd_Fu_takePacket_79 (by decide) ?_
      refine zx_iload (q := 5) dd_Fu_takePacket_3 rfl rfl ?_
      refine zx_iconst (nI 2) (q := 6) dd_Fu_takePacket_5 rfl (by decide) ?_
      refine zx_icmp_ge 82 (q := 9) dd_Fu_takePacket_6 rfl (by decide) (fun hc19 => absurd hc19 (by decide)) (fun hc19 => ?_)
      refine zx_aload_n (q := 10) dd_Fu_takePacket_9 rfl rfl ?_
      refine zx_get (q := 13) dd_Fu_takePacket_10 rfl fl_Fu_17 (at_f0 hf) rfl ?_
      refine zx_iload (q := 15) dd_Fu_takePacket_13 rfl rfl ?_
      refine zx_aald (q := 16) dd_Fu_takePacket_15 rfl (fun _ => rfl) (at_f3 hf) rfl (by decide) (by decide) ord_1 ?_
      refine zx_astore_6 (q := 18) dd_Fu_takePacket_16 rfl (by decide) rfl ?_
      refine zx_aload (q := 20) dd_Fu_takePacket_18 rfl rfl ?_
      refine zx_iload_n (q := 21) dd_Fu_takePacket_20 rfl rfl ?_
      refine zx_iload_n (q := 22) dd_Fu_takePacket_21 rfl rfl ?_
      refine zx_cV2i (q := 25) dd_Fu_takePacket_22 rfl cv_Fu_takePacket_172 ⟨rfl, rfl⟩ (at_t1 hf ho) rfl rfl (Nat.le_of_ble_eq_true rfl) ⟨Nat.zero_le _, Nat.zero_le _⟩ (ok1_In_isFrom hf ho fun r38 he38 => ⟨_, rfl, ?_⟩)
      refine zx_if_eq 76 (q := 28) dd_Fu_takePacket_25 rfl (by decide) (fun hc20 => ?_) (fun hc20 => ?_)
      · skip
        replace hc20 := zb_0.mp hc20
        refine zx_iincC_5 2 (q := 79) dd_Fu_takePacket_76 rfl rfl (by decide) rfl ?_
        refine zx_goto 3 dd_Fu_takePacket_79 (by decide) ?_
        refine zx_iload (q := 5) dd_Fu_takePacket_3 rfl rfl ?_
        refine zx_iconst (nI 2) (q := 6) dd_Fu_takePacket_5 rfl (by decide) ?_
        refine zx_icmp_ge 82 (q := 9) dd_Fu_takePacket_6 rfl (by decide) (fun hc21 => ?_) (fun hc21 => absurd (by decide) hc21)
        exact zx_vret dd_Fu_takePacket_82 rfl (hq _ _ _ _ _ _ _ _ _ _ _ _ _ (by first | (simp [pf_packet, pf_pkt, he32, hc2, he35, hc11, he38, hc20]; done) | (clear hq; simp_all [pf_packet, pf_pkt]; done)) hw35)
      · skip
        replace hc20 := zb_n0.mp hc20
        refine zx_iload_n (q := 29) dd_Fu_takePacket_28 rfl rfl ?_
        refine zx_if_eq 41 (q := 32) dd_Fu_takePacket_29 rfl (by decide) (fun hc22 => ?_) (fun hc22 => absurd (by decide) hc22)
        refine zx_aload (q := 43) dd_Fu_takePacket_41 rfl rfl ?_
        refine zx_lload_n (q := 44) dd_Fu_takePacket_43 rfl rfl ?_
        refine zx_cV1i (q := 47) dd_Fu_takePacket_44 rfl cv_Fu_takePacket_201 ⟨rfl, rfl⟩ (at_t1 hf ho) rfl rfl (Nat.le_of_ble_eq_true rfl) ⟨Nat.zero_le _, Nat.zero_le _⟩ (ok1_In_takeDirected hf ho hw35 hex1 fun r39 B39 x39 he39 hw39 => ⟨_, rfl, ?_⟩)
        obtain ⟨ids39, con39, snd39, cnt39, ovf39, now39⟩ := B39
        obtain ⟨⟨pk_39, so_39, gr_39, si_39, ta_39⟩, op_39, he_39, ex_39, lt_39, ak_39, du_39⟩ := x39
        refine zx_istore_7 (q := 49) dd_Fu_takePacket_47 rfl (by decide) rfl ?_
        refine zx_iload (q := 51) dd_Fu_takePacket_49 rfl rfl ?_
        refine zx_if_eq 76 (q := 54) dd_Fu_takePacket_51 rfl (by decide) (fun hc23 => ?_) (fun hc23 => ?_)
        · skip
          replace hc23 := zb_0.mp hc23
          refine zx_iincC_5 2 (q := 79) dd_Fu_takePacket_76 rfl rfl (by decide) rfl ?_
          refine zx_goto 3 dd_Fu_takePacket_79 (by decide) ?_
          refine zx_iload (q := 5) dd_Fu_takePacket_3 rfl rfl ?_
          refine zx_iconst (nI 2) (q := 6) dd_Fu_takePacket_5 rfl (by decide) ?_
          refine zx_icmp_ge 82 (q := 9) dd_Fu_takePacket_6 rfl (by decide) (fun hc24 => ?_) (fun hc24 => absurd (by decide) hc24)
          exact zx_vret dd_Fu_takePacket_82 rfl (hq _ _ _ _ _ _ _ _ _ _ _ _ _ (by first | (simp [pf_packet, pf_pkt, he32, hc2, he35, hc11, he38, hc20, he39, hc23]; done) | (clear hq; simp_all [pf_packet, pf_pkt]; done)) hw39)
        · skip
          replace hc23 := zb_n0.mp hc23
          refine zx_aload_n (q := 55) dd_Fu_takePacket_54 rfl rfl ?_
          refine zx_get (q := 58) dd_Fu_takePacket_55 rfl fl_Fu_24 (at_f0 hf) rfl ?_
          refine zx_aload (q := 60) dd_Fu_takePacket_58 rfl rfl ?_
          refine zx_get (q := 63) dd_Fu_takePacket_60 rfl fl_Fu_192 (at_t1 hf ho) rfl ?_
          refine zx_cV1v (q := 66) dd_Fu_takePacket_63 rfl cv_Fu_takePacket_204 ⟨rfl, rfl⟩ (at_f4 hf) rfl rfl (Nat.le_of_ble_eq_true rfl) ⟨Nat.zero_le _, Nat.zero_le _⟩ (ok1_Ms_copy hf ho ⟨rfl, ?_⟩)
          refine zx_aload_n (q := 67) dd_Fu_takePacket_66 rfl rfl ?_
          refine zx_dup (q := 68) dd_Fu_takePacket_67 rfl rfl ?_
          refine zx_get (q := 71) dd_Fu_takePacket_68 rfl fl_Fu_62 (at_f0 hf) rfl ?_
          refine zx_iconst (nI 1) (q := 72) dd_Fu_takePacket_71 rfl (by decide) ?_
          refine zx_iadd (q := 73) dd_Fu_takePacket_72 rfl ?_
          refine zx_put (q := 76) dd_Fu_takePacket_73 rfl fl_Fu_62 (at_f0 hf) rfl rfl (Nat.le_of_ble_eq_true rfl) (up_f0 hf) ?_
          refine zx_iincC_5 2 (q := 79) dd_Fu_takePacket_76 rfl rfl (by decide) rfl ?_
          refine zx_goto 3 dd_Fu_takePacket_79 (by decide) ?_
          refine zx_iload (q := 5) dd_Fu_takePacket_3 rfl rfl ?_
          refine zx_iconst (nI 2) (q := 6) dd_Fu_takePacket_5 rfl (by decide) ?_
          refine zx_icmp_ge 82 (q := 9) dd_Fu_takePacket_6 rfl (by decide) (fun hc25 => ?_) (fun hc25 => absurd (by decide) hc25)
          exact zx_vret dd_Fu_takePacket_82 rfl (hq _ _ _ _ _ _ _ _ _ _ _ _ _ (by first | (simp [pf_packet, pf_pkt, he32, hc2, he35, hc11, he38, hc20, he39, hc23]; done) | (clear hq; simp_all [pf_packet, pf_pkt]; done)) hw39)
