set_option maxRecDepth 100000 in
set_option maxHeartbeats 4000000 in
theorem ok_Fu_sendClaim {E : zxE} {b f n : Nat} {F : Nat → zFn} {D : zMd} {B : zB} {ad : Int32} {bz : Bool} {nt : Nat → Int32} {o : Nat} {la : zMs} {ou : zOu} {xs : Nat → zIn} {de st : Int32} {nm hd : Int64} {Q : Option Value → zxH → Nat → Prop} (hf : f < 5) (hw : B.2.2.2.1 ≤ 48) (hq : ∀ B', pc_put B (nI f) ad (nI 418250752) (nI 255) nm = B' → B'.2.2.2.1 ≤ 48 → Q none (zs b (B', foc F f (ad, bz, nt, o, la, ou, xs, de, st, nm, hd), D)) n) : zx_Ok E my_Fu_sendClaim mi_Fu_sendClaim [.ref (fa b f 0)] (zs b (B, foc F f (ad, bz, nt, o, la, ou, xs, de, st, nm, hd), D)) n Q := by
  refine zx_start [some (.ref (fa b f 0))] (by decide) rfl rfl (Nat.le_of_ble_eq_true rfl) rfl ?_
  refine zx_aload_n (q := 1) dd_Fu_sendClaim_0 rfl rfl ?_
  refine zx_get (q := 4) dd_Fu_sendClaim_1 rfl fl_Fu_38 (at_f0 hf) rfl ?_
  refine zx_aload_n (q := 5) dd_Fu_sendClaim_4 rfl rfl ?_
  refine zx_get (q := 8) dd_Fu_sendClaim_5 rfl fl_Fu_42 (at_f0 hf) rfl ?_
  refine zx_ldc _ (q := 10) dd_Fu_sendClaim_8 rfl kk_Fu_126 ?_
  refine zx_sipush (nI 255) (q := 13) dd_Fu_sendClaim_10 rfl (by decide) ?_
  refine zx_aload_n (q := 14) dd_Fu_sendClaim_13 rfl rfl ?_
  refine zx_get (q := 17) dd_Fu_sendClaim_14 rfl fl_Fu_56 (at_f0 hf) rfl ?_
  refine zx_cV4v (q := 20) dd_Fu_sendClaim_17 rfl cv_Fu_sendClaim_127 ⟨rfl, rfl⟩ at_b1 rfl rfl (Nat.le_of_ble_eq_true rfl) ⟨Nat.zero_le _, Nat.zero_le _⟩ (ok_Bu_put hf hw fun B1 he1 hw1 => ⟨rfl, ?_⟩)
  obtain ⟨ids1, con1, snd1, cnt1, ovf1, now1⟩ := B1
  exact zx_vret dd_Fu_sendClaim_20 rfl (hq _ he1 hw1)
set_option maxRecDepth 100000 in
set_option maxHeartbeats 4000000 in
theorem ok_Fu_claim {E : zxE} {b f n : Nat} {F : Nat → zFn} {D : zMd} {B : zB} {ad : Int32} {bz : Bool} {nt : Nat → Int32} {o : Nat} {la : zMs} {ou : zOu} {x0 x1 : zIn} {de st : Int32} {nm hd : Int64} {Q : Option Value → zxH → Nat → Prop} {a : Int32} (hf : f < 5) (hw : B.2.2.2.1 ≤ 48) (hq : ∀ B' ad' bz' nt' o' la' ou' x0' x1' de' st' nm' hd', pf_claim B (nI f) (ad, bz, nt, o, la, ou, x0, x1, de, st, nm, hd) a = (B', (ad', bz', nt', o', la', ou', x0', x1', de', st', nm', hd')) → B'.2.2.2.1 ≤ 48 → Q none (zs b (B', foc F f (ad', bz', nt', o', la', ou', tw o' x0' x1', de', st', nm', hd'), D)) n) : zx_Ok E my_Fu_claim mi_Fu_claim [.ref (fa b f 0), .int a] (zs b (B, foc F f (ad, bz, nt, o, la, ou, tw o x0 x1, de, st, nm, hd), D)) n Q := by
  obtain ⟨ids, con, snd, cnt, ovf, now⟩ := B
  refine zx_start [some (.ref (fa b f 0)), some (.int a)] (by decide) rfl rfl (Nat.le_of_ble_eq_true rfl) rfl ?_
  refine zx_aload_n (q := 1) dd_Fu_claim_0 rfl rfl ?_
  refine zx_iconst (nI 1) (q := 2) dd_Fu_claim_1 rfl (by decide) ?_
  refine zx_put (q := 5) dd_Fu_claim_2 rfl fl_Fu_28 (at_f0 hf) rfl rfl (Nat.le_of_ble_eq_true rfl) (up_f0 hf) ?_
  refine zx_aload_n (q := 6) dd_Fu_claim_5 rfl rfl ?_
  refine zx_get (q := 9) dd_Fu_claim_6 rfl fl_Fu_42 (at_f0 hf) rfl ?_
  refine zx_iload_n (q := 10) dd_Fu_claim_9 rfl rfl ?_
  refine zx_put (q := 13) dd_Fu_claim_10 rfl fl_Fu_82 (at_f1 hf) rfl rfl (Nat.le_of_ble_eq_true rfl) (up_f1 hf) ?_
  refine zx_aload_n (q := 14) dd_Fu_claim_13 rfl rfl ?_
  refine zx_aload_n (q := 15) dd_Fu_claim_14 rfl rfl ?_
  refine zx_get (q := 18) dd_Fu_claim_15 rfl fl_Fu_38 (at_f0 hf) rfl ?_
  refine zx_get (q := 21) dd_Fu_claim_18 rfl fl_Fu_117 at_b1 rfl ?_
  refine zx_ldc2 _ (q := 24) dd_Fu_claim_21 rfl kk_Fu_124 ?_
  refine zx_ladd (q := 25) dd_Fu_claim_24 rfl ?_
  refine zx_put (q := 28) dd_Fu_claim_25 rfl fl_Fu_34 (at_f0 hf) rfl rfl (Nat.le_of_ble_eq_true rfl) (up_f0 hf) ?_
  refine zx_aload_n (q := 29) dd_Fu_claim_28 rfl rfl ?_
  refine zx_cV0v (q := 32) dd_Fu_claim_29 rfl cv_Fu_claim_96 ⟨rfl, rfl⟩ (at_f0 hf) rfl rfl (Nat.le_of_ble_eq_true rfl) ⟨Nat.zero_le _, Nat.zero_le _⟩ (ok_Fu_sendClaim hf hw fun B2 he2 hw2 => ⟨rfl, ?_⟩)
  obtain ⟨ids2, con2, snd2, cnt2, ovf2, now2⟩ := B2
  exact zx_vret dd_Fu_claim_32 rfl (hq _ _ _ _ _ _ _ _ _ _ _ _ _ (by first | (simp [pf_claim, he2]; done) | (clear hq; simp_all [pf_claim]; done)) hw2)
set_option maxRecDepth 100000 in
set_option maxHeartbeats 4000000 in
theorem ok_Fu_isNameLessThan {E : zxE} {b f n : Nat} {F : Nat → zFn} {D : zMd} {B : zB} {ad : Int32} {bz : Bool} {nt : Nat → Int32} {o : Nat} {la : zMs} {ou : zOu} {xs : Nat → zIn} {de st : Int32} {nm hd : Int64} {Q : Option Value → zxH → Nat → Prop} {d : Int64} (hf : f < 5) (hq : ∀ r, pf_less nm d = r → Q (some (.int (zb r))) (zs b (B, foc F f (ad, bz, nt, o, la, ou, xs, de, st, nm, hd), D)) n) : zx_Ok E my_Fu_isNameLessThan mi_Fu_isNameLessThan [.ref (fa b f 0), .long d] (zs b (B, foc F f (ad, bz, nt, o, la, ou, xs, de, st, nm, hd), D)) n Q := by
  refine zx_start [some (.ref (fa b f 0)), some (.long d), none] (by decide) rfl rfl (Nat.le_of_ble_eq_true rfl) rfl ?_
  refine zx_aload_n (q := 1) dd_Fu_isNameLessThan_0 rfl rfl ?_
  refine zx_get (q := 4) dd_Fu_isNameLessThan_1 rfl fl_Fu_56 (at_f0 hf) rfl ?_
  refine zx_ldc2 _ (q := 7) dd_Fu_isNameLessThan_4 rfl kk_Fu_138 ?_
  refine zx_lxor (q := 8) dd_Fu_isNameLessThan_7 rfl ?_
  refine zx_lload_n (q := 9) dd_Fu_isNameLessThan_8 rfl rfl ?_
  refine zx_ldc2 _ (q := 12) dd_Fu_isNameLessThan_9 rfl kk_Fu_138 ?_
  refine zx_lxor (q := 13) dd_Fu_isNameLessThan_12 rfl ?_
  refine zx_lcmp (q := 14) dd_Fu_isNameLessThan_13 rfl ?_
  refine zx_if_ge 21 (q := 17) dd_Fu_isNameLessThan_14 rfl (by decide) (fun hc1 => ?_) (fun hc1 => ?_)
  · skip
    replace hc1 := lcmp_ge.mp hc1
    refine zx_iconst (nI 0) (q := 22) dd_Fu_isNameLessThan_21 rfl (by decide) ?_
    exact zx_zret dd_Fu_isNameLessThan_22 rfl (by decide) (by rw [zb_f]; exact hq _ (by first | (simp [pf_less, hc1]; done) | (clear hq; simp_all [pf_less]; done)))
  · skip
    replace hc1 := lcmp_nge.mp hc1
    refine zx_iconst (nI 1) (q := 18) dd_Fu_isNameLessThan_17 rfl (by decide) ?_
    refine zx_goto 22 dd_Fu_isNameLessThan_18 (by decide) ?_
    exact zx_zret dd_Fu_isNameLessThan_22 rfl (by decide) (by rw [zb_1]; exact hq _ (by first | (simp [pf_less, hc1]; done) | (clear hq; simp_all [pf_less]; done)))
set_option maxRecDepth 100000 in
set_option maxHeartbeats 4000000 in
theorem ok_Fu_isNoted {E : zxE} {b f n : Nat} {F : Nat → zFn} {D : zMd} {B : zB} {ad : Int32} {bz : Bool} {nt : Nat → Int32} {o : Nat} {la : zMs} {ou : zOu} {xs : Nat → zIn} {de st : Int32} {nm hd : Int64} {Q : Option Value → zxH → Nat → Prop} {a : Int32} (hf : f < 5) (hq : ∀ r, pf_noted nt a = r → Q (some (.int (zb r))) (zs b (B, foc F f (ad, bz, nt, o, la, ou, xs, de, st, nm, hd), D)) n) : zx_Ok E my_Fu_isNoted mi_Fu_isNoted [.ref (fa b f 0), .int a] (zs b (B, foc F f (ad, bz, nt, o, la, ou, xs, de, st, nm, hd), D)) n Q := by
  refine zx_start [some (.ref (fa b f 0)), some (.int a), none] (by decide) rfl rfl (Nat.le_of_ble_eq_true rfl) rfl ?_
  refine zx_iconst (nI 0) (q := 1) dd_Fu_isNoted_0 rfl (by decide) ?_
  refine zx_istore_2 (q := 2) dd_Fu_isNoted_1 rfl (by decide) rfl ?_
  refine zx_iload_n (q := 3) dd_Fu_isNoted_2 rfl rfl ?_
  refine zx_iconst (nI 5) (q := 4) dd_Fu_isNoted_3 rfl (by decide) ?_
  refine zx_icmp_ge 25 (q := 7) dd_Fu_isNoted_4 rfl (by decide) (fun hc1 => absurd hc1 (by decide)) (fun hc1 => ?_)
  refine zx_aload_n (q := 8) dd_Fu_isNoted_7 rfl rfl ?_
  refine zx_get (q := 11) dd_Fu_isNoted_8 rfl fl_Fu_9 (at_f0 hf) rfl ?_
  refine zx_iload_n (q := 12) dd_Fu_isNoted_11 rfl rfl ?_
  refine zx_iald (q := 13) dd_Fu_isNoted_12 rfl (at_f2 hf) rfl (by omega) (by decide) ?_
  refine zx_iload_n (q := 14) dd_Fu_isNoted_13 rfl rfl ?_
  refine zx_icmp_ne 19 (q := 17) dd_Fu_isNoted_14 rfl (by decide) (fun hc2 => ?_) (fun hc2 => ?_)
  · skip
    refine zx_iincC_2 1 (q := 22) dd_Fu_isNoted_19 rfl rfl (by decide) rfl ?_
    refine zx_goto 2 dd_Fu_isNoted_22 (by decide) ?_
    refine zx_iload_n (q := 3) dd_Fu_isNoted_2 rfl rfl ?_
    refine zx_iconst (nI 5) (q := 4) dd_Fu_isNoted_3 rfl (by decide) ?_
    refine zx_icmp_ge 25 (q := 7) dd_Fu_isNoted_4 rfl (by decide) (fun hc3 => absurd hc3 (by decide)) (fun hc3 => ?_)
    refine zx_aload_n (q := 8) dd_Fu_isNoted_7 rfl rfl ?_
    refine zx_get (q := 11) dd_Fu_isNoted_8 rfl fl_Fu_9 (at_f0 hf) rfl ?_
    refine zx_iload_n (q := 12) dd_Fu_isNoted_11 rfl rfl ?_
    refine zx_iald (q := 13) dd_Fu_isNoted_12 rfl (at_f2 hf) rfl (by omega) (by decide) ?_
    refine zx_iload_n (q := 14) dd_Fu_isNoted_13 rfl rfl ?_
    refine zx_icmp_ne 19 (q := 17) dd_Fu_isNoted_14 rfl (by decide) (fun hc4 => ?_) (fun hc4 => ?_)
    · skip
      refine zx_iincC_2 2 (q := 22) dd_Fu_isNoted_19 rfl rfl (by decide) rfl ?_
      refine zx_goto 2 dd_Fu_isNoted_22 (by decide) ?_
      refine zx_iload_n (q := 3) dd_Fu_isNoted_2 rfl rfl ?_
      refine zx_iconst (nI 5) (q := 4) dd_Fu_isNoted_3 rfl (by decide) ?_
      refine zx_icmp_ge 25 (q := 7) dd_Fu_isNoted_4 rfl (by decide) (fun hc5 => absurd hc5 (by decide)) (fun hc5 => ?_)
      refine zx_aload_n (q := 8) dd_Fu_isNoted_7 rfl rfl ?_
      refine zx_get (q := 11) dd_Fu_isNoted_8 rfl fl_Fu_9 (at_f0 hf) rfl ?_
      refine zx_iload_n (q := 12) dd_Fu_isNoted_11 rfl rfl ?_
      refine zx_iald (q := 13) dd_Fu_isNoted_12 rfl (at_f2 hf) rfl (by omega) (by decide) ?_
      refine zx_iload_n (q := 14) dd_Fu_isNoted_13 rfl rfl ?_
      refine zx_icmp_ne 19 (q := 17) dd_Fu_isNoted_14 rfl (by decide) (fun hc6 => ?_) (fun hc6 => ?_)
      · skip
        refine zx_iincC_2 3 (q := 22) dd_Fu_isNoted_19 rfl rfl (by decide) rfl ?_
        refine zx_goto 2 dd_Fu_isNoted_22 (by decide) ?_
        refine zx_iload_n (q := 3) dd_Fu_isNoted_2 rfl rfl ?_
        refine zx_iconst (nI 5) (q := 4) dd_Fu_isNoted_3 rfl (by decide) ?_
        refine zx_icmp_ge 25 (q := 7) dd_Fu_isNoted_4 rfl (by decide) (fun hc7 => absurd hc7 (by decide)) (fun hc7 => ?_)
        refine zx_aload_n (q := 8) dd_Fu_isNoted_7 rfl rfl ?_
        refine zx_get (q := 11) dd_Fu_isNoted_8 rfl fl_Fu_9 (at_f0 hf) rfl ?_
        refine zx_iload_n (q := 12) dd_Fu_isNoted_11 rfl rfl ?_
        refine zx_iald (q := 13) dd_Fu_isNoted_12 rfl (at_f2 hf) rfl (by omega) (by decide) ?_
        refine zx_iload_n (q := 14) dd_Fu_isNoted_13 rfl rfl ?_
        refine zx_icmp_ne 19 (q := 17) dd_Fu_isNoted_14 rfl (by decide) (fun hc8 => ?_) (fun hc8 => ?_)
        · skip
          refine zx_iincC_2 4 (q := 22) dd_Fu_isNoted_19 rfl rfl (by decide) rfl ?_
          refine zx_goto 2 dd_Fu_isNoted_22 (by decide) ?_
          refine zx_iload_n (q := 3) dd_Fu_isNoted_2 rfl rfl ?_
          refine zx_iconst (nI 5) (q := 4) dd_Fu_isNoted_3 rfl (by decide) ?_
          refine zx_icmp_ge 25 (q := 7) dd_Fu_isNoted_4 rfl (by decide) (fun hc9 => absurd hc9 (by decide)) (fun hc9 => ?_)
          refine zx_aload_n (q := 8) dd_Fu_isNoted_7 rfl rfl ?_
          refine zx_get (q := 11) dd_Fu_isNoted_8 rfl fl_Fu_9 (at_f0 hf) rfl ?_
          refine zx_iload_n (q := 12) dd_Fu_isNoted_11 rfl rfl ?_
          refine zx_iald (q := 13) dd_Fu_isNoted_12 rfl (at_f2 hf) rfl (by omega) (by decide) ?_
          refine zx_iload_n (q := 14) dd_Fu_isNoted_13 rfl rfl ?_
          refine zx_icmp_ne 19 (q := 17) dd_Fu_isNoted_14 rfl (by decide) (fun hc10 => ?_) (fun hc10 => ?_)
          · skip
            refine zx_iincC_2 5 (q := 22) dd_Fu_isNoted_19 rfl rfl (by decide) rfl ?_
            refine zx_goto 2 dd_Fu_isNoted_22 (by decide) ?_
            refine zx_iload_n (q := 3) dd_Fu_isNoted_2 rfl rfl ?_
            refine zx_iconst (nI 5) (q := 4) dd_Fu_isNoted_3 rfl (by decide) ?_
            refine zx_icmp_ge 25 (q := 7) dd_Fu_isNoted_4 rfl (by decide) (fun hc11 => ?_) (fun hc11 => absurd (by decide) hc11)
            refine zx_iconst (nI 0) (q := 26) dd_Fu_isNoted_25 rfl (by decide) ?_
            exact zx_zret dd_Fu_isNoted_26 rfl (by decide) (by rw [zb_f]; exact hq _ (by first | (simp [pf_noted, hc2, hc4, hc6, hc8, hc10]; done) | (clear hq; simp_all [pf_noted]; done)))
          · skip
            refine zx_iconst (nI 1) (q := 18) dd_Fu_isNoted_17 rfl (by decide) ?_
            exact zx_zret dd_Fu_isNoted_18 rfl (by decide) (by rw [zb_1]; exact hq _ (by first | (simp [pf_noted, hc2, hc4, hc6, hc8, eq_true hc10]; done) | (clear hq; simp_all [pf_noted]; done)))
        · skip
          refine zx_iconst (nI 1) (q := 18) dd_Fu_isNoted_17 rfl (by decide) ?_
          exact zx_zret dd_Fu_isNoted_18 rfl (by decide) (by rw [zb_1]; exact hq _ (by first | (simp [pf_noted, hc2, hc4, hc6, eq_true hc8]; done) | (clear hq; simp_all [pf_noted]; done)))
      · skip
        refine zx_iconst (nI 1) (q := 18) dd_Fu_isNoted_17 rfl (by decide) ?_
        exact zx_zret dd_Fu_isNoted_18 rfl (by decide) (by rw [zb_1]; exact hq _ (by first | (simp [pf_noted, hc2, hc4, eq_true hc6]; done) | (clear hq; simp_all [pf_noted]; done)))
    · skip
      refine zx_iconst (nI 1) (q := 18) dd_Fu_isNoted_17 rfl (by decide) ?_
      exact zx_zret dd_Fu_isNoted_18 rfl (by decide) (by rw [zb_1]; exact hq _ (by first | (simp [pf_noted, hc2, eq_true hc4]; done) | (clear hq; simp_all [pf_noted]; done)))
  · skip
    refine zx_iconst (nI 1) (q := 18) dd_Fu_isNoted_17 rfl (by decide) ?_
    exact zx_zret dd_Fu_isNoted_18 rfl (by decide) (by rw [zb_1]; exact hq _ (by first | (simp [pf_noted, eq_true hc2]; done) | (clear hq; simp_all [pf_noted]; done)))
set_option maxRecDepth 100000 in
set_option maxHeartbeats 4000000 in
theorem ok_Fu_spareAddress {E : zxE} {b f n : Nat} {F : Nat → zFn} {D : zMd} {B : zB} {ad : Int32} {bz : Bool} {nt : Nat → Int32} {o : Nat} {la : zMs} {ou : zOu} {xs : Nat → zIn} {de st : Int32} {nm hd : Int64} {Q : Option Value → zxH → Nat → Prop} (hf : f < 5) (hq : ∀ r, pf_spare nt = r → Q (some (.int r)) (zs b (B, foc F f (ad, bz, nt, o, la, ou, xs, de, st, nm, hd), D)) n) : zx_Ok E my_Fu_spareAddress mi_Fu_spareAddress [.ref (fa b f 0)] (zs b (B, foc F f (ad, bz, nt, o, la, ou, xs, de, st, nm, hd), D)) n Q := by
  refine zx_start [some (.ref (fa b f 0)), none] (by decide) rfl rfl (Nat.le_of_ble_eq_true rfl) rfl ?_
  refine zx_sipush (nI 128) (q := 3) dd_Fu_spareAddress_0 rfl (by decide) ?_
  refine zx_istore_1 (q := 4) dd_Fu_spareAddress_3 rfl (by decide) rfl ?_
  refine zx_iload_n (q := 5) dd_Fu_spareAddress_4 rfl rfl ?_
  refine zx_sipush (nI 131) (q := 8) dd_Fu_spareAddress_5 rfl (by decide) ?_
  refine zx_icmp_gt 25 (q := 11) dd_Fu_spareAddress_8 rfl (by decide) (fun hc1 => absurd hc1 (by decide)) (fun hc1 => ?_)
  refine zx_aload_n (q := 12) dd_Fu_spareAddress_11 rfl rfl ?_
  refine zx_iload_n (q := 13) dd_Fu_spareAddress_12 rfl rfl ?_
  refine zx_cV1i (q := 16) dd_Fu_spareAddress_13 rfl cv_Fu_spareAddress_144 ⟨rfl, rfl⟩ (at_f0 hf) rfl rfl (Nat.le_of_ble_eq_true rfl) ⟨Nat.zero_le _, Nat.zero_le _⟩ (ok_Fu_isNoted hf fun r3 he3 => ⟨_, rfl, ?_⟩)
  refine zx_if_eq 25 (q := 19) dd_Fu_spareAddress_16 rfl (by decide) (fun hc2 => ?_) (fun hc2 => ?_)
  · skip
    replace hc2 := zb_0.mp hc2
    refine zx_iload_n (q := 26) dd_Fu_spareAddress_25 rfl rfl ?_
    exact zx_iret dd_Fu_spareAddress_26 rfl (hq _ (by first | (simp [pf_spare, he3, hc2]; done) | (clear hq; simp_all [pf_spare]; done)))
  · skip
    replace hc2 := zb_n0.mp hc2
    refine zx_iincC_1 129 (q := 22) dd_Fu_spareAddress_19 rfl rfl (by decide) rfl ?_
    refine zx_goto 4 dd_Fu_spareAddress_22 (by decide) ?_
    refine zx_iload_n (q := 5) dd_Fu_spareAddress_4 rfl rfl ?_
    refine zx_sipush (nI 131) (q := 8) dd_Fu_spareAddress_5 rfl (by decide) ?_
    refine zx_icmp_gt 25 (q := 11) dd_Fu_spareAddress_8 rfl (by decide) (fun hc3 => absurd hc3 (by decide)) (fun hc3 => ?_)
    refine zx_aload_n (q := 12) dd_Fu_spareAddress_11 rfl rfl ?_
    refine zx_iload_n (q := 13) dd_Fu_spareAddress_12 rfl rfl ?_
    refine zx_cV1i (q := 16) dd_Fu_spareAddress_13 rfl cv_Fu_spareAddress_144 ⟨rfl, rfl⟩ (at_f0 hf) rfl rfl (Nat.le_of_ble_eq_true rfl) ⟨Nat.zero_le _, Nat.zero_le _⟩ (ok_Fu_isNoted hf fun r4 he4 => ⟨_, rfl, ?_⟩)
    refine zx_if_eq 25 (q := 19) dd_Fu_spareAddress_16 rfl (by decide) (fun hc4 => ?_) (fun hc4 => ?_)
    · skip
      replace hc4 := zb_0.mp hc4
      refine zx_iload_n (q := 26) dd_Fu_spareAddress_25 rfl rfl ?_
      exact zx_iret dd_Fu_spareAddress_26 rfl (hq _ (by first | (simp [pf_spare, he3, hc2, he4, hc4]; done) | (clear hq; simp_all [pf_spare]; done)))
    · skip
      replace hc4 := zb_n0.mp hc4
      refine zx_iincC_1 130 (q := 22) dd_Fu_spareAddress_19 rfl rfl (by decide) rfl ?_
      refine zx_goto 4 dd_Fu_spareAddress_22 (by decide) ?_
      refine zx_iload_n (q := 5) dd_Fu_spareAddress_4 rfl rfl ?_
      refine zx_sipush (nI 131) (q := 8) dd_Fu_spareAddress_5 rfl (by decide) ?_
      refine zx_icmp_gt 25 (q := 11) dd_Fu_spareAddress_8 rfl (by decide) (fun hc5 => absurd hc5 (by decide)) (fun hc5 => ?_)
      refine zx_aload_n (q := 12) dd_Fu_spareAddress_11 rfl rfl ?_
      refine zx_iload_n (q := 13) dd_Fu_spareAddress_12 rfl rfl ?_
      refine zx_cV1i (q := 16) dd_Fu_spareAddress_13 rfl cv_Fu_spareAddress_144 ⟨rfl, rfl⟩ (at_f0 hf) rfl rfl (Nat.le_of_ble_eq_true rfl) ⟨Nat.zero_le _, Nat.zero_le _⟩ (ok_Fu_isNoted hf fun r5 he5 => ⟨_, rfl, ?_⟩)
      refine zx_if_eq 25 (q := 19) dd_Fu_spareAddress_16 rfl (by decide) (fun hc6 => ?_) (fun hc6 => ?_)
      · skip
        replace hc6 := zb_0.mp hc6
        refine zx_iload_n (q := 26) dd_Fu_spareAddress_25 rfl rfl ?_
        exact zx_iret dd_Fu_spareAddress_26 rfl (hq _ (by first | (simp [pf_spare, he3, hc2, he4, hc4, he5, hc6]; done) | (clear hq; simp_all [pf_spare]; done)))
      · skip
        replace hc6 := zb_n0.mp hc6
        refine zx_iincC_1 131 (q := 22) dd_Fu_spareAddress_19 rfl rfl (by decide) rfl ?_
        refine zx_goto 4 dd_Fu_spareAddress_22 (by decide) ?_
        refine zx_iload_n (q := 5) dd_Fu_spareAddress_4 rfl rfl ?_
        refine zx_sipush (nI 131) (q := 8) dd_Fu_spareAddress_5 rfl (by decide) ?_
        refine zx_icmp_gt 25 (q := 11) dd_Fu_spareAddress_8 rfl (by decide) (fun hc7 => absurd hc7 (by decide)) (fun hc7 => ?_)
        refine zx_aload_n (q := 12) dd_Fu_spareAddress_11 rfl rfl ?_
        refine zx_iload_n (q := 13) dd_Fu_spareAddress_12 rfl rfl ?_
        refine zx_cV1i (q := 16) dd_Fu_spareAddress_13 rfl cv_Fu_spareAddress_144 ⟨rfl, rfl⟩ (at_f0 hf) rfl rfl (Nat.le_of_ble_eq_true rfl) ⟨Nat.zero_le _, Nat.zero_le _⟩ (ok_Fu_isNoted hf fun r6 he6 => ⟨_, rfl, ?_⟩)
        refine zx_if_eq 25 (q := 19) dd_Fu_spareAddress_16 rfl (by decide) (fun hc8 => ?_) (fun hc8 => ?_)
        · skip
          replace hc8 := zb_0.mp hc8
          refine zx_iload_n (q := 26) dd_Fu_spareAddress_25 rfl rfl ?_
          exact zx_iret dd_Fu_spareAddress_26 rfl (hq _ (by first | (simp [pf_spare, he3, hc2, he4, hc4, he5, hc6, he6, hc8]; done) | (clear hq; simp_all [pf_spare]; done)))
        · skip
          replace hc8 := zb_n0.mp hc8
          refine zx_iincC_1 132 (q := 22) dd_Fu_spareAddress_19 rfl rfl (by decide) rfl ?_
          refine zx_goto 4 dd_Fu_spareAddress_22 (by decide) ?_
          refine zx_iload_n (q := 5) dd_Fu_spareAddress_4 rfl rfl ?_
          refine zx_sipush (nI 131) (q := 8) dd_Fu_spareAddress_5 rfl (by decide) ?_
          refine zx_icmp_gt 25 (q := 11) dd_Fu_spareAddress_8 rfl (by decide) (fun hc9 => ?_) (fun hc9 => absurd (by decide) hc9)
          refine zx_iload_n (q := 26) dd_Fu_spareAddress_25 rfl rfl ?_
          exact zx_iret dd_Fu_spareAddress_26 rfl (hq _ (by first | (simp [pf_spare, he3, hc2, he4, hc4, he5, hc6, he6, hc8]; done) | (clear hq; simp_all [pf_spare]; done)))
set_option maxRecDepth 100000 in
set_option maxHeartbeats 4000000 in
theorem ok_Fu_endSessions {E : zxE} {b f n : Nat} {F : Nat → zFn} {D : zMd} {B : zB} {ad : Int32} {bz : Bool} {nt : Nat → Int32} {o : Nat} {la : zMs} {ou : zOu} {x0 x1 : zIn} {de st : Int32} {nm hd : Int64} {Q : Option Value → zxH → Nat → Prop} (hf : f < 5) (ho : o ≤ 1) (hq : ∀ ad' bz' nt' o' la' ou' x0' x1' de' st' nm' hd', pf_ends (ad, bz, nt, o, la, ou, x0, x1, de, st, nm, hd) = (ad', bz', nt', o', la', ou', x0', x1', de', st', nm', hd') → Q none (zs b (B, foc F f (ad', bz', nt', o', la', ou', tw o' x0' x1', de', st', nm', hd'), D)) n) : zx_Ok E my_Fu_endSessions mi_Fu_endSessions [.ref (fa b f 0)] (zs b (B, foc F f (ad, bz, nt, o, la, ou, tw o x0 x1, de, st, nm, hd), D)) n Q := by
  obtain ⟨ph, re, tg, gp, sz, se, nx, du⟩ := ou
  refine zx_start [some (.ref (fa b f 0)), none] (by decide) rfl rfl (Nat.le_of_ble_eq_true rfl) rfl ?_
  refine zx_aload_n (q := 1) dd_Fu_endSessions_0 rfl rfl ?_
  refine zx_get (q := 4) dd_Fu_endSessions_1 rfl fl_Fu_51 (at_f0 hf) rfl ?_
  refine zx_get (q := 7) dd_Fu_endSessions_4 rfl fl_Fu_85 (at_f6 hf) rfl ?_
  refine zx_if_eq 19 (q := 10) dd_Fu_endSessions_7 rfl (by decide) (fun hc1 => ?_) (fun hc1 => ?_)
  · skip
    refine zx_iconst (nI 0) (q := 20) dd_Fu_endSessions_19 rfl (by decide) ?_
    refine zx_istore_1 (q := 21) dd_Fu_endSessions_20 rfl (by decide) rfl ?_
    refine zx_iload_n (q := 22) dd_Fu_endSessions_21 rfl rfl ?_
    refine zx_iconst (nI 2) (q := 23) dd_Fu_endSessions_22 rfl (by decide) ?_
    refine zx_icmp_ge 41 (q := 26) dd_Fu_endSessions_23 rfl (by decide) (fun hc2 => absurd hc2 (by decide)) (fun hc2 => ?_)
    refine zx_aload_n (q := 27) dd_Fu_endSessions_26 rfl rfl ?_
    refine zx_get (q := 30) dd_Fu_endSessions_27 rfl fl_Fu_17 (at_f0 hf) rfl ?_
    refine zx_iload_n (q := 31) dd_Fu_endSessions_30 rfl rfl ?_
    refine zx_aald (q := 32) dd_Fu_endSessions_31 rfl (fun _ => rfl) (at_f3 hf) rfl (by decide) (by decide) ord_0 ?_
    refine zx_cV0v (q := 35) dd_Fu_endSessions_32 rfl cv_Fu_endSessions_151 ⟨rfl, rfl⟩ (at_t0 hf ho) rfl rfl (Nat.le_of_ble_eq_true rfl) ⟨Nat.zero_le _, Nat.zero_le _⟩ (ok0_In_end hf ho ⟨rfl, ?_⟩)
    refine zx_iincC_1 1 (q := 38) dd_Fu_endSessions_35 rfl rfl (by decide) rfl ?_
    refine zx_goto 21 dd_Fu_endSessions_38 (by decide) ?_
    refine zx_iload_n (q := 22) dd_Fu_endSessions_21 rfl rfl ?_
    refine zx_iconst (nI 2) (q := 23) dd_Fu_endSessions_22 rfl (by decide) ?_
    refine zx_icmp_ge 41 (q := 26) dd_Fu_endSessions_23 rfl (by decide) (fun hc3 => absurd hc3 (by decide)) (fun hc3 => ?_)
    refine zx_aload_n (q := 27) dd_Fu_endSessions_26 rfl rfl ?_
    refine zx_get (q := 30) dd_Fu_endSessions_27 rfl fl_Fu_17 (at_f0 hf) rfl ?_
    refine zx_iload_n (q := 31) dd_Fu_endSessions_30 rfl rfl ?_
    refine zx_aald (q := 32) dd_Fu_endSessions_31 rfl (fun _ => rfl) (at_f3 hf) rfl (by decide) (by decide) ord_1 ?_
    refine zx_cV0v (q := 35) dd_Fu_endSessions_32 rfl cv_Fu_endSessions_151 ⟨rfl, rfl⟩ (at_t1 hf ho) rfl rfl (Nat.le_of_ble_eq_true rfl) ⟨Nat.zero_le _, Nat.zero_le _⟩ (ok1_In_end hf ho ⟨rfl, ?_⟩)
    refine zx_iincC_1 2 (q := 38) dd_Fu_endSessions_35 rfl rfl (by decide) rfl ?_
    refine zx_goto 21 dd_Fu_endSessions_38 (by decide) ?_
    refine zx_iload_n (q := 22) dd_Fu_endSessions_21 rfl rfl ?_
    refine zx_iconst (nI 2) (q := 23) dd_Fu_endSessions_22 rfl (by decide) ?_
    refine zx_icmp_ge 41 (q := 26) dd_Fu_endSessions_23 rfl (by decide) (fun hc4 => ?_) (fun hc4 => absurd (by decide) hc4)
    exact zx_vret dd_Fu_endSessions_41 rfl (hq _ _ _ _ _ _ _ _ _ _ _ _ (by first | (simp [pf_ends, eq_true hc1]; done) | (clear hq; simp_all [pf_ends]; done)))
  · skip
    refine zx_aload_n (q := 11) dd_Fu_endSessions_10 rfl rfl ?_
    refine zx_get (q := 14) dd_Fu_endSessions_11 rfl fl_Fu_51 (at_f0 hf) rfl ?_
    refine zx_bipush (nI 13) (q := 16) dd_Fu_endSessions_14 rfl (by decide) ?_
    refine zx_cV1v (q := 19) dd_Fu_endSessions_16 rfl cv_Fu_endSessions_148 ⟨rfl, rfl⟩ (at_f6 hf) rfl rfl (Nat.le_of_ble_eq_true rfl) ⟨Nat.zero_le _, Nat.zero_le _⟩ (ok_Ou_end hf ⟨rfl, ?_⟩)
    refine zx_iconst (nI 0) (q := 20) dd_Fu_endSessions_19 rfl (by decide) ?_
    refine zx_istore_1 (q := 21) dd_Fu_endSessions_20 rfl (by decide) rfl ?_
    refine zx_iload_n (q := 22) dd_Fu_endSessions_21 rfl rfl ?_
    refine zx_iconst (nI 2) (q := 23) dd_Fu_endSessions_22 rfl (by decide) ?_
    refine zx_icmp_ge 41 (q := 26) dd_Fu_endSessions_23 rfl (by decide) (fun hc5 => absurd hc5 (by decide)) (fun hc5 => ?_)
    refine zx_aload_n (q := 27) dd_Fu_endSessions_26 rfl rfl ?_
    refine zx_get (q := 30) dd_Fu_endSessions_27 rfl fl_Fu_17 (at_f0 hf) rfl ?_
    refine zx_iload_n (q := 31) dd_Fu_endSessions_30 rfl rfl ?_
    refine zx_aald (q := 32) dd_Fu_endSessions_31 rfl (fun _ => rfl) (at_f3 hf) rfl (by decide) (by decide) ord_0 ?_
    refine zx_cV0v (q := 35) dd_Fu_endSessions_32 rfl cv_Fu_endSessions_151 ⟨rfl, rfl⟩ (at_t0 hf ho) rfl rfl (Nat.le_of_ble_eq_true rfl) ⟨Nat.zero_le _, Nat.zero_le _⟩ (ok0_In_end hf ho ⟨rfl, ?_⟩)
    refine zx_iincC_1 1 (q := 38) dd_Fu_endSessions_35 rfl rfl (by decide) rfl ?_
    refine zx_goto 21 dd_Fu_endSessions_38 (by decide) ?_
    refine zx_iload_n (q := 22) dd_Fu_endSessions_21 rfl rfl ?_
    refine zx_iconst (nI 2) (q := 23) dd_Fu_endSessions_22 rfl (by decide) ?_
    refine zx_icmp_ge 41 (q := 26) dd_Fu_endSessions_23 rfl (by decide) (fun hc6 => absurd hc6 (by decide)) (fun hc6 => ?_)
    refine zx_aload_n (q := 27) dd_Fu_endSessions_26 rfl rfl ?_
    refine zx_get (q := 30) dd_Fu_endSessions_27 rfl fl_Fu_17 (at_f0 hf) rfl ?_
    refine zx_iload_n (q := 31) dd_Fu_endSessions_30 rfl rfl ?_
    refine zx_aald (q := 32) dd_Fu_endSessions_31 rfl (fun _ => rfl) (at_f3 hf) rfl (by decide) (by decide) ord_1 ?_
    refine zx_cV0v (q := 35) dd_Fu_endSessions_32 rfl cv_Fu_endSessions_151 ⟨rfl, rfl⟩ (at_t1 hf ho) rfl rfl (Nat.le_of_ble_eq_true rfl) ⟨Nat.zero_le _, Nat.zero_le _⟩ (ok1_In_end hf ho ⟨rfl, ?_⟩)
    refine zx_iincC_1 2 (q := 38) dd_Fu_endSessions_35 rfl rfl (by decide) rfl ?_
    refine zx_goto 21 dd_Fu_endSessions_38 (by decide) ?_
    refine zx_iload_n (q := 22) dd_Fu_endSessions_21 rfl rfl ?_
    refine zx_iconst (nI 2) (q := 23) dd_Fu_endSessions_22 rfl (by decide) ?_
    refine zx_icmp_ge 41 (q := 26) dd_Fu_endSessions_23 rfl (by decide) (fun hc7 => ?_) (fun hc7 => absurd (by decide) hc7)
    exact zx_vret dd_Fu_endSessions_41 rfl (hq _ _ _ _ _ _ _ _ _ _ _ _ (by first | (simp [pf_ends, hc1]; done) | (clear hq; simp_all [pf_ends]; done)))
set_option maxRecDepth 100000 in
set_option maxHeartbeats 4000000 in
theorem ok_Fu_switchOff {E : zxE} {b f n : Nat} {F : Nat → zFn} {D : zMd} {B : zB} {ad : Int32} {bz : Bool} {nt : Nat → Int32} {o : Nat} {la : zMs} {ou : zOu} {x0 x1 : zIn} {de st : Int32} {nm hd : Int64} {Q : Option Value → zxH → Nat → Prop} (hf : f < 5) (ho : o ≤ 1) (hw : B.2.2.2.1 ≤ 48) (hq : ∀ B' ad' bz' nt' o' la' ou' x0' x1' de' st' nm' hd', pf_off B (nI f) (ad, bz, nt, o, la, ou, x0, x1, de, st, nm, hd) = (B', (ad', bz', nt', o', la', ou', x0', x1', de', st', nm', hd')) → Q none (zs b (B', foc F f (ad', bz', nt', o', la', ou', tw o' x0' x1', de', st', nm', hd'), D)) n) : zx_Ok E my_Fu_switchOff mi_Fu_switchOff [.ref (fa b f 0)] (zs b (B, foc F f (ad, bz, nt, o, la, ou, tw o x0 x1, de, st, nm, hd), D)) n Q := by
  refine zx_start [some (.ref (fa b f 0))] (by decide) rfl rfl (Nat.le_of_ble_eq_true rfl) rfl ?_
  refine zx_aload_n (q := 1) dd_Fu_switchOff_0 rfl rfl ?_
  refine zx_cV0v (q := 4) dd_Fu_switchOff_1 rfl cv_Fu_switchOff_69 ⟨rfl, rfl⟩ (at_f0 hf) rfl rfl (Nat.le_of_ble_eq_true rfl) ⟨Nat.zero_le _, Nat.zero_le _⟩ (ok_Fu_endSessions hf ho fun ad7 bz7 nt7 o7 la7 ou7 x0_7 x1_7 de7 st7 nm7 hd7 he7 => ⟨rfl, ?_⟩)
  refine zx_aload_n (q := 5) dd_Fu_switchOff_4 rfl rfl ?_
  refine zx_iconst (nI 0) (q := 6) dd_Fu_switchOff_5 rfl (by decide) ?_
  refine zx_put (q := 9) dd_Fu_switchOff_6 rfl fl_Fu_28 (at_f0 hf) rfl rfl (Nat.le_of_ble_eq_true rfl) (up_f0 hf) ?_
  refine zx_aload_n (q := 10) dd_Fu_switchOff_9 rfl rfl ?_
  refine zx_ldc2 _ (q := 13) dd_Fu_switchOff_10 rfl kk_Fu_32 ?_
  refine zx_put (q := 16) dd_Fu_switchOff_13 rfl fl_Fu_34 (at_f0 hf) rfl rfl (Nat.le_of_ble_eq_true rfl) (up_f0 hf) ?_
  refine zx_aload_n (q := 17) dd_Fu_switchOff_16 rfl rfl ?_
  refine zx_get (q := 20) dd_Fu_switchOff_17 rfl fl_Fu_38 (at_f0 hf) rfl ?_
  refine zx_aload_n (q := 21) dd_Fu_switchOff_20 rfl rfl ?_
  refine zx_get (q := 24) dd_Fu_switchOff_21 rfl fl_Fu_42 (at_f0 hf) rfl ?_
  refine zx_get (q := 27) dd_Fu_switchOff_24 rfl fl_Fu_72 (at_f1 hf) rfl ?_
  refine zx_cV1v (q := 30) dd_Fu_switchOff_27 rfl cv_Fu_switchOff_77 ⟨rfl, rfl⟩ at_b1 rfl rfl (Nat.le_of_ble_eq_true rfl) ⟨Nat.zero_le _, Nat.zero_le _⟩ (ok_Bu_takeAwayFramesOf hw ⟨rfl, ?_⟩)
  exact zx_vret dd_Fu_switchOff_30 rfl (hq _ _ _ _ _ _ _ _ _ _ _ _ _ (by first | (simp [pf_off, pc_NEVER, he7]; done) | (clear hq; simp_all [pf_off, pc_NEVER]; done)))
set_option maxRecDepth 100000 in
set_option maxHeartbeats 4000000 in
theorem lo_Fu_switchOn {E : zxE} {b f n : Nat} {F : Nat → zFn} {D : zMd} {B : zB} {ad : Int32} {bz : Bool} {nt : Nat → Int32} {o : Nat} {la : zMs} {ou : zOu} {x0 x1 : zIn} {de st : Int32} {nm hd : Int64} {Q : Option Value → zxH → Nat → Prop} {a : Int32} (hf : f < 5) (hw : B.2.2.2.1 ≤ 48) (hq : ∀ B' ad' bz' nt' o' la' ou' x0' x1' de' st' nm' hd', pf_claim B (nI f) (ad, bz, pf_fill nt 5, o, la, ou, x0, x1, de, st, nm, hd) a = (B', (ad', bz', nt', o', la', ou', x0', x1', de', st', nm', hd')) → B'.2.2.2.1 ≤ 48 → Q none (zs b (B', foc F f (ad', bz', nt', o', la', ou', tw o' x0' x1', de', st', nm', hd'), D)) n) : ∀ k i : Nat, i + k = 5 → zx_X E mi_Fu_switchOn (zx_Y E mi_Fu_switchOn Q) 21 [some (.ref (fa b f 0)), some (.long nm), none, some (.int a), some (.int (nI i))] [] (zs b (B, foc F f (ad, bz, pf_fill nt i, o, la, ou, tw o x0 x1, de, st, nm, hd), D)) n 0 0 := by
  intro k
  induction k with
  | zero =>
    intro i h2
    have h3 : i = 5 := by omega
    subst h3
    refine zx_iload (q := 23) dd_Fu_switchOn_21 rfl rfl ?_
    refine zx_iconst (nI 5) (q := 24) dd_Fu_switchOn_23 rfl (by decide) ?_
    refine zx_icmp_ge 41 (q := 27) dd_Fu_switchOn_24 rfl (by decide) (fun hc1 => ?_) (fun hc1 => absurd (by decide) hc1)
    refine zx_aload_n (q := 42) dd_Fu_switchOn_41 rfl rfl ?_
    refine zx_iload_n (q := 43) dd_Fu_switchOn_42 rfl rfl ?_
    refine zx_cV1v (q := 46) dd_Fu_switchOn_43 rfl cv_Fu_switchOn_65 ⟨rfl, rfl⟩ (at_f0 hf) rfl rfl (Nat.le_of_ble_eq_true rfl) ⟨Nat.zero_le _, Nat.zero_le _⟩ (ok_Fu_claim hf hw fun B1 ad1 bz1 nt1 o1 la1 ou1 x0_1 x1_1 de1 st1 nm1 hd1 he1 hw1 => ⟨rfl, ?_⟩)
    exact zx_vret dd_Fu_switchOn_46 rfl (hq _ _ _ _ _ _ _ _ _ _ _ _ _ he1 hw1)
  | succ k ih =>
    intro i h2
    have ih := ih (i + 1) (by omega)
    refine zx_iload (q := 23) dd_Fu_switchOn_21 rfl rfl ?_
    refine zx_iconst (nI 5) (q := 24) dd_Fu_switchOn_23 rfl (by decide) ?_
    refine zx_icmp_ge 41 (q := 27) dd_Fu_switchOn_24 rfl (by decide) (fun hc1 => absurd hc1 (fun z => absurd ((nI_leI (by decide) (by omega)).mp z) (by omega))) (fun hc1 => ?_)
    refine zx_aload_n (q := 28) dd_Fu_switchOn_27 rfl rfl ?_
    refine zx_get (q := 31) dd_Fu_switchOn_28 rfl fl_Fu_9 (at_f0 hf) rfl ?_
    refine zx_iload (q := 33) dd_Fu_switchOn_31 rfl rfl ?_
    refine zx_iconst (-1) (q := 34) dd_Fu_switchOn_33 rfl (by decide) ?_
    refine zx_iast (q := 35) dd_Fu_switchOn_34 rfl (at_f2 hf) rfl (by omega) (by decide) (up_f2 hf) ?_
    refine zx_iincN_4 (q := 38) dd_Fu_switchOn_35 rfl (by decide) rfl ?_
    refine zx_goto 21 dd_Fu_switchOn_38 (by decide) ?_
    rw [pf_fill_s]
    exact ih
set_option maxRecDepth 100000 in
set_option maxHeartbeats 4000000 in
theorem ok_Fu_switchOn {E : zxE} {b f n : Nat} {F : Nat → zFn} {D : zMd} {B : zB} {ad : Int32} {bz : Bool} {nt : Nat → Int32} {o : Nat} {la : zMs} {ou : zOu} {x0 x1 : zIn} {de st : Int32} {nm hd : Int64} {Q : Option Value → zxH → Nat → Prop} {name : Int64} {a : Int32} (hf : f < 5) (hw : B.2.2.2.1 ≤ 48) (hq : ∀ B' ad' bz' nt' o' la' ou' x0' x1' de' st' nm' hd', pf_on B (nI f) (ad, bz, nt, o, la, ou, x0, x1, de, st, nm, hd) name a = (B', (ad', bz', nt', o', la', ou', x0', x1', de', st', nm', hd')) → B'.2.2.2.1 ≤ 48 → Q none (zs b (B', foc F f (ad', bz', nt', o', la', ou', tw o' x0' x1', de', st', nm', hd'), D)) n) : zx_Ok E my_Fu_switchOn mi_Fu_switchOn [.ref (fa b f 0), .long name, .int a] (zs b (B, foc F f (ad, bz, nt, o, la, ou, tw o x0 x1, de, st, nm, hd), D)) n Q := by
  obtain ⟨ph, re, tg, gp, sz, se, nx, du⟩ := ou
  refine zx_start [some (.ref (fa b f 0)), some (.long name), none, some (.int a), none] (by decide) rfl rfl (Nat.le_of_ble_eq_true rfl) rfl ?_
  refine zx_aload_n (q := 1) dd_Fu_switchOn_0 rfl rfl ?_
  refine zx_lload_n (q := 2) dd_Fu_switchOn_1 rfl rfl ?_
  refine zx_put (q := 5) dd_Fu_switchOn_2 rfl fl_Fu_56 (at_f0 hf) rfl rfl (Nat.le_of_ble_eq_true rfl) (up_f0 hf) ?_
  refine zx_aload_n (q := 6) dd_Fu_switchOn_5 rfl rfl ?_
  refine zx_get (q := 9) dd_Fu_switchOn_6 rfl fl_Fu_51 (at_f0 hf) rfl ?_
  refine zx_iconst (nI 0) (q := 10) dd_Fu_switchOn_9 rfl (by decide) ?_
  refine zx_put (q := 13) dd_Fu_switchOn_10 rfl fl_Fu_59 (at_f6 hf) rfl rfl (Nat.le_of_ble_eq_true rfl) (up_f6 hf) ?_
  refine zx_aload_n (q := 14) dd_Fu_switchOn_13 rfl rfl ?_
  refine zx_iconst (nI 0) (q := 15) dd_Fu_switchOn_14 rfl (by decide) ?_
  refine zx_put (q := 18) dd_Fu_switchOn_15 rfl fl_Fu_62 (at_f0 hf) rfl rfl (Nat.le_of_ble_eq_true rfl) (up_f0 hf) ?_
  refine zx_iconst (nI 0) (q := 19) dd_Fu_switchOn_18 rfl (by decide) ?_
  refine zx_istore_4 (q := 21) dd_Fu_switchOn_19 rfl (by decide) rfl ?_
  have hx := lo_Fu_switchOn (E := E) (b := b) (n := n) (F := F) (D := D) (B := B) (ad := ad) (bz := bz) (nt := nt) (o := o) (la := la) (ou := (ph, nI 0, tg, gp, sz, se, nx, du)) (x0 := x0) (x1 := x1) (de := nI 0) (st := st) (nm := name) (hd := hd) (a := a) (Q := Q) hf hw hq 5 0 (by omega)
  rw [pf_fill_0] at hx
  exact hx
set_option maxRecDepth 100000 in
set_option maxHeartbeats 4000000 in
theorem ok_Fu_canSendTo {E : zxE} {b f n : Nat} {F : Nat → zFn} {D : zMd} {B : zB} {ad : Int32} {bz : Bool} {nt : Nat → Int32} {o : Nat} {la : zMs} {ou : zOu} {x0 x1 : zIn} {de st : Int32} {nm hd : Int64} {Q : Option Value → zxH → Nat → Prop} {t : Int32} (hf : f < 5) (hq : ∀ r, pf_can (ad, bz, nt, o, la, ou, x0, x1, de, st, nm, hd) t = r → Q (some (.int (zb r))) (zs b (B, foc F f (ad, bz, nt, o, la, ou, tw o x0 x1, de, st, nm, hd), D)) n) : zx_Ok E my_Fu_canSendTo mi_Fu_canSendTo [.ref (fa b f 0), .int t] (zs b (B, foc F f (ad, bz, nt, o, la, ou, tw o x0 x1, de, st, nm, hd), D)) n Q := by
  obtain ⟨ph, re, tg, gp, sz, se, nx, du⟩ := ou
  refine zx_start [some (.ref (fa b f 0)), some (.int t), none] (by decide) rfl rfl (Nat.le_of_ble_eq_true rfl) rfl ?_
  refine zx_iload_n (q := 1) dd_Fu_canSendTo_0 rfl rfl ?_
  refine zx_sipush (nI 255) (q := 4) dd_Fu_canSendTo_1 rfl (by decide) ?_
  refine zx_icmp_eq 18 (q := 7) dd_Fu_canSendTo_4 rfl (by decide) (fun hc1 => ?_) (fun hc1 => ?_)
  · skip
    refine zx_iconst (nI 1) (q := 19) dd_Fu_canSendTo_18 rfl (by decide) ?_
    refine zx_goto 23 dd_Fu_canSendTo_19 (by decide) ?_
    refine zx_istore_2 (q := 24) dd_Fu_canSendTo_23 rfl (by decide) rfl ?_
    refine zx_iload_n (q := 25) dd_Fu_canSendTo_24 rfl rfl ?_
    refine zx_if_eq 61 (q := 28) dd_Fu_canSendTo_25 rfl (by decide) (fun hc2 => absurd hc2 (by decide)) (fun hc2 => ?_)
    refine zx_aload_n (q := 29) dd_Fu_canSendTo_28 rfl rfl ?_
    refine zx_get (q := 32) dd_Fu_canSendTo_29 rfl fl_Fu_28 (at_f0 hf) rfl ?_
    refine zx_iconst (nI 2) (q := 33) dd_Fu_canSendTo_32 rfl (by decide) ?_
    refine zx_icmp_ne 61 (q := 36) dd_Fu_canSendTo_33 rfl (by decide) (fun hc3 => ?_) (fun hc3 => ?_)
    · skip
      refine zx_iconst (nI 0) (q := 62) dd_Fu_canSendTo_61 rfl (by decide) ?_
      exact zx_zret dd_Fu_canSendTo_62 rfl (by decide) (by rw [zb_f]; exact hq _ (by first | (simp [pf_can, eq_true hc1, hc3]; done) | (clear hq; simp_all [pf_can]; done)))
    · skip
      refine zx_iload_n (q := 37) dd_Fu_canSendTo_36 rfl rfl ?_
      refine zx_aload_n (q := 38) dd_Fu_canSendTo_37 rfl rfl ?_
      refine zx_get (q := 41) dd_Fu_canSendTo_38 rfl fl_Fu_42 (at_f0 hf) rfl ?_
      refine zx_get (q := 44) dd_Fu_canSendTo_41 rfl fl_Fu_82 (at_f1 hf) rfl ?_
      refine zx_icmp_eq 61 (q := 47) dd_Fu_canSendTo_44 rfl (by decide) (fun hc4 => ?_) (fun hc4 => ?_)
      · skip
        refine zx_iconst (nI 0) (q := 62) dd_Fu_canSendTo_61 rfl (by decide) ?_
        exact zx_zret dd_Fu_canSendTo_62 rfl (by decide) (by rw [zb_f]; exact hq _ (by first | (simp [pf_can, eq_true hc1, eq_true hc3, eq_true hc4]; done) | (clear hq; simp_all [pf_can]; done)))
      · skip
        refine zx_aload_n (q := 48) dd_Fu_canSendTo_47 rfl rfl ?_
        refine zx_get (q := 51) dd_Fu_canSendTo_48 rfl fl_Fu_51 (at_f0 hf) rfl ?_
        refine zx_get (q := 54) dd_Fu_canSendTo_51 rfl fl_Fu_85 (at_f6 hf) rfl ?_
        refine zx_if_ne 61 (q := 57) dd_Fu_canSendTo_54 rfl (by decide) (fun hc5 => ?_) (fun hc5 => ?_)
        · skip
          refine zx_iconst (nI 0) (q := 62) dd_Fu_canSendTo_61 rfl (by decide) ?_
          exact zx_zret dd_Fu_canSendTo_62 rfl (by decide) (by rw [zb_f]; exact hq _ (by first | (simp [pf_can, eq_true hc1, eq_true hc3, hc4, hc5]; done) | (clear hq; simp_all [pf_can]; done)))
        · skip
          refine zx_iconst (nI 1) (q := 58) dd_Fu_canSendTo_57 rfl (by decide) ?_
          refine zx_goto 62 dd_Fu_canSendTo_58 (by decide) ?_
          exact zx_zret dd_Fu_canSendTo_62 rfl (by decide) (by rw [zb_1]; exact hq _ (by first | (simp [pf_can, eq_true hc1, eq_true hc3, hc4, eq_true hc5]; done) | (clear hq; simp_all [pf_can]; done)))
  · skip
    refine zx_iload_n (q := 8) dd_Fu_canSendTo_7 rfl rfl ?_
    refine zx_if_lt 22 (q := 11) dd_Fu_canSendTo_8 rfl (by decide) (fun hc6 => ?_) (fun hc6 => ?_)
    · skip
      refine zx_iconst (nI 0) (q := 23) dd_Fu_canSendTo_22 rfl (by decide) ?_
      refine zx_istore_2 (q := 24) dd_Fu_canSendTo_23 rfl (by decide) rfl ?_
      refine zx_iload_n (q := 25) dd_Fu_canSendTo_24 rfl rfl ?_
      refine zx_if_eq 61 (q := 28) dd_Fu_canSendTo_25 rfl (by decide) (fun hc7 => ?_) (fun hc7 => absurd (by decide) hc7)
      refine zx_iconst (nI 0) (q := 62) dd_Fu_canSendTo_61 rfl (by decide) ?_
      exact zx_zret dd_Fu_canSendTo_62 rfl (by decide) (by rw [zb_f]; exact hq _ (by first | (simp [pf_can, hc1, hc6]; done) | (clear hq; simp_all [pf_can]; done)))
    · skip
      refine zx_iload_n (q := 12) dd_Fu_canSendTo_11 rfl rfl ?_
      refine zx_sipush (nI 253) (q := 15) dd_Fu_canSendTo_12 rfl (by decide) ?_
      refine zx_icmp_gt 22 (q := 18) dd_Fu_canSendTo_15 rfl (by decide) (fun hc8 => ?_) (fun hc8 => ?_)
      · skip
        refine zx_iconst (nI 0) (q := 23) dd_Fu_canSendTo_22 rfl (by decide) ?_
        refine zx_istore_2 (q := 24) dd_Fu_canSendTo_23 rfl (by decide) rfl ?_
        refine zx_iload_n (q := 25) dd_Fu_canSendTo_24 rfl rfl ?_
        refine zx_if_eq 61 (q := 28) dd_Fu_canSendTo_25 rfl (by decide) (fun hc9 => ?_) (fun hc9 => absurd (by decide) hc9)
        refine zx_iconst (nI 0) (q := 62) dd_Fu_canSendTo_61 rfl (by decide) ?_
        exact zx_zret dd_Fu_canSendTo_62 rfl (by decide) (by rw [zb_f]; exact hq _ (by first | (simp [pf_can, hc1, hc6, hc8]; done) | (clear hq; simp_all [pf_can]; done)))
      · skip
        refine zx_iconst (nI 1) (q := 19) dd_Fu_canSendTo_18 rfl (by decide) ?_
        refine zx_goto 23 dd_Fu_canSendTo_19 (by decide) ?_
        refine zx_istore_2 (q := 24) dd_Fu_canSendTo_23 rfl (by decide) rfl ?_
        refine zx_iload_n (q := 25) dd_Fu_canSendTo_24 rfl rfl ?_
        refine zx_if_eq 61 (q := 28) dd_Fu_canSendTo_25 rfl (by decide) (fun hc10 => absurd hc10 (by decide)) (fun hc10 => ?_)
        refine zx_aload_n (q := 29) dd_Fu_canSendTo_28 rfl rfl ?_
        refine zx_get (q := 32) dd_Fu_canSendTo_29 rfl fl_Fu_28 (at_f0 hf) rfl ?_
        refine zx_iconst (nI 2) (q := 33) dd_Fu_canSendTo_32 rfl (by decide) ?_
        refine zx_icmp_ne 61 (q := 36) dd_Fu_canSendTo_33 rfl (by decide) (fun hc11 => ?_) (fun hc11 => ?_)
        · skip
          refine zx_iconst (nI 0) (q := 62) dd_Fu_canSendTo_61 rfl (by decide) ?_
          exact zx_zret dd_Fu_canSendTo_62 rfl (by decide) (by rw [zb_f]; exact hq _ (by first | (simp [pf_can, hc1, hc6, hc8, hc11]; done) | (clear hq; simp_all [pf_can]; done)))
        · skip
          refine zx_iload_n (q := 37) dd_Fu_canSendTo_36 rfl rfl ?_
          refine zx_aload_n (q := 38) dd_Fu_canSendTo_37 rfl rfl ?_
          refine zx_get (q := 41) dd_Fu_canSendTo_38 rfl fl_Fu_42 (at_f0 hf) rfl ?_
          refine zx_get (q := 44) dd_Fu_canSendTo_41 rfl fl_Fu_82 (at_f1 hf) rfl ?_
          refine zx_icmp_eq 61 (q := 47) dd_Fu_canSendTo_44 rfl (by decide) (fun hc12 => ?_) (fun hc12 => ?_)
          · skip
            refine zx_iconst (nI 0) (q := 62) dd_Fu_canSendTo_61 rfl (by decide) ?_
            exact zx_zret dd_Fu_canSendTo_62 rfl (by decide) (by rw [zb_f]; exact hq _ (by first | (simp [pf_can, hc1, hc6, hc8, eq_true hc11, eq_true hc12]; done) | (clear hq; simp_all [pf_can]; done)))
          · skip
            refine zx_aload_n (q := 48) dd_Fu_canSendTo_47 rfl rfl ?_
            refine zx_get (q := 51) dd_Fu_canSendTo_48 rfl fl_Fu_51 (at_f0 hf) rfl ?_
            refine zx_get (q := 54) dd_Fu_canSendTo_51 rfl fl_Fu_85 (at_f6 hf) rfl ?_
            refine zx_if_ne 61 (q := 57) dd_Fu_canSendTo_54 rfl (by decide) (fun hc13 => ?_) (fun hc13 => ?_)
            · skip
              refine zx_iconst (nI 0) (q := 62) dd_Fu_canSendTo_61 rfl (by decide) ?_
              exact zx_zret dd_Fu_canSendTo_62 rfl (by decide) (by rw [zb_f]; exact hq _ (by first | (simp [pf_can, hc1, hc6, hc8, eq_true hc11, hc12, hc13]; done) | (clear hq; simp_all [pf_can]; done)))
            · skip
              refine zx_iconst (nI 1) (q := 58) dd_Fu_canSendTo_57 rfl (by decide) ?_
              refine zx_goto 62 dd_Fu_canSendTo_58 (by decide) ?_
              exact zx_zret dd_Fu_canSendTo_62 rfl (by decide) (by rw [zb_1]; exact hq _ (by first | (simp [pf_can, hc1, hc6, hc8, eq_true hc11, hc12, eq_true hc13]; done) | (clear hq; simp_all [pf_can]; done)))
set_option maxRecDepth 100000 in
set_option maxHeartbeats 4000000 in
theorem ok_Fu_countIncoming {E : zxE} {b f n : Nat} {F : Nat → zFn} {D : zMd} {B : zB} {ad : Int32} {bz : Bool} {nt : Nat → Int32} {o : Nat} {la : zMs} {ou : zOu} {x0 x1 : zIn} {de st : Int32} {nm hd : Int64} {Q : Option Value → zxH → Nat → Prop} (hf : f < 5) (ho : o ≤ 1) (hq : ∀ r, pf_count (ad, bz, nt, o, la, ou, x0, x1, de, st, nm, hd) = r → Q (some (.int (nI r))) (zs b (B, foc F f (ad, bz, nt, o, la, ou, tw o x0 x1, de, st, nm, hd), D)) n) : zx_Ok E my_Fu_countIncoming mi_Fu_countIncoming [.ref (fa b f 0)] (zs b (B, foc F f (ad, bz, nt, o, la, ou, tw o x0 x1, de, st, nm, hd), D)) n Q := by
  obtain ⟨⟨pk0, so0, gr0, si0, ta0⟩, op0, he0, ex0, lt0, ak0, du0⟩ := x0
  obtain ⟨⟨pk1, so1, gr1, si1, ta1⟩, op1, he1, ex1, lt1, ak1, du1⟩ := x1
  refine zx_start [some (.ref (fa b f 0)), none, none] (by decide) rfl rfl (Nat.le_of_ble_eq_true rfl) rfl ?_
  refine zx_iconst (nI 0) (q := 1) dd_Fu_countIncoming_0 rfl (by decide) ?_
  refine zx_istore_1 (q := 2) dd_Fu_countIncoming_1 rfl (by decide) rfl ?_
  refine zx_iconst (nI 0) (q := 3) dd_Fu_countIncoming_2 rfl (by decide) ?_
  refine zx_istore_2 (q := 4) dd_Fu_countIncoming_3 rfl (by decide) rfl ?_
  refine zx_iload_n (q := 5) dd_Fu_countIncoming_4 rfl rfl ?_
  refine zx_iconst (nI 2) (q := 6) dd_Fu_countIncoming_5 rfl (by decide) ?_
  refine zx_icmp_ge 30 (q := 9) dd_Fu_countIncoming_6 rfl (by decide) (fun hc1 => absurd hc1 (by decide)) (fun hc1 => ?_)
  refine zx_aload_n (q := 10) dd_Fu_countIncoming_9 rfl rfl ?_
  refine zx_get (q := 13) dd_Fu_countIncoming_10 rfl fl_Fu_17 (at_f0 hf) rfl ?_
  refine zx_iload_n (q := 14) dd_Fu_countIncoming_13 rfl rfl ?_
  refine zx_aald (q := 15) dd_Fu_countIncoming_14 rfl (fun _ => rfl) (at_f3 hf) rfl (by decide) (by decide) ord_0 ?_
  refine zx_get (q := 18) dd_Fu_countIncoming_15 rfl fl_Fu_88 (at_t0 hf ho) rfl ?_
  refine zx_if_eq 24 (q := 21) dd_Fu_countIncoming_18 rfl (by decide) (fun hc2 => ?_) (fun hc2 => ?_)
  · skip
    replace hc2 := zb_0.mp hc2
    refine zx_iincC_2 1 (q := 27) dd_Fu_countIncoming_24 rfl rfl (by decide) rfl ?_
    refine zx_goto 4 dd_Fu_countIncoming_27 (by decide) ?_
    refine zx_iload_n (q := 5) dd_Fu_countIncoming_4 rfl rfl ?_
    refine zx_iconst (nI 2) (q := 6) dd_Fu_countIncoming_5 rfl (by decide) ?_
    refine zx_icmp_ge 30 (q := 9) dd_Fu_countIncoming_6 rfl (by decide) (fun hc3 => absurd hc3 (by decide)) (fun hc3 => ?_)
    refine zx_aload_n (q := 10) dd_Fu_countIncoming_9 rfl rfl ?_
    refine zx_get (q := 13) dd_Fu_countIncoming_10 rfl fl_Fu_17 (at_f0 hf) rfl ?_
    refine zx_iload_n (q := 14) dd_Fu_countIncoming_13 rfl rfl ?_
    refine zx_aald (q := 15) dd_Fu_countIncoming_14 rfl (fun _ => rfl) (at_f3 hf) rfl (by decide) (by decide) ord_1 ?_
    refine zx_get (q := 18) dd_Fu_countIncoming_15 rfl fl_Fu_88 (at_t1 hf ho) rfl ?_
    refine zx_if_eq 24 (q := 21) dd_Fu_countIncoming_18 rfl (by decide) (fun hc4 => ?_) (fun hc4 => ?_)
    · skip
      replace hc4 := zb_0.mp hc4
      refine zx_iincC_2 2 (q := 27) dd_Fu_countIncoming_24 rfl rfl (by decide) rfl ?_
      refine zx_goto 4 dd_Fu_countIncoming_27 (by decide) ?_
      refine zx_iload_n (q := 5) dd_Fu_countIncoming_4 rfl rfl ?_
      refine zx_iconst (nI 2) (q := 6) dd_Fu_countIncoming_5 rfl (by decide) ?_
      refine zx_icmp_ge 30 (q := 9) dd_Fu_countIncoming_6 rfl (by decide) (fun hc5 => ?_) (fun hc5 => absurd (by decide) hc5)
      refine zx_iload_n (q := 31) dd_Fu_countIncoming_30 rfl rfl ?_
      exact zx_iret dd_Fu_countIncoming_31 rfl (hq _ (by first | (simp [pf_count, hc2, hc4]; done) | (clear hq; simp_all [pf_count]; done)))
    · skip
      replace hc4 := zb_n0.mp hc4
      refine zx_iincC_1 1 (q := 24) dd_Fu_countIncoming_21 rfl rfl (by decide) rfl ?_
      refine zx_iincC_2 2 (q := 27) dd_Fu_countIncoming_24 rfl rfl (by decide) rfl ?_
      refine zx_goto 4 dd_Fu_countIncoming_27 (by decide) ?_
      refine zx_iload_n (q := 5) dd_Fu_countIncoming_4 rfl rfl ?_
      refine zx_iconst (nI 2) (q := 6) dd_Fu_countIncoming_5 rfl (by decide) ?_
      refine zx_icmp_ge 30 (q := 9) dd_Fu_countIncoming_6 rfl (by decide) (fun hc6 => ?_) (fun hc6 => absurd (by decide) hc6)
      refine zx_iload_n (q := 31) dd_Fu_countIncoming_30 rfl rfl ?_
      exact zx_iret dd_Fu_countIncoming_31 rfl (hq _ (by first | (simp [pf_count, hc2, hc4]; done) | (clear hq; simp_all [pf_count]; done)))
  · skip
    replace hc2 := zb_n0.mp hc2
    refine zx_iincC_1 1 (q := 24) dd_Fu_countIncoming_21 rfl rfl (by decide) rfl ?_
    refine zx_iincC_2 1 (q := 27) dd_Fu_countIncoming_24 rfl rfl (by decide) rfl ?_
    refine zx_goto 4 dd_Fu_countIncoming_27 (by decide) ?_
    refine zx_iload_n (q := 5) dd_Fu_countIncoming_4 rfl rfl ?_
    refine zx_iconst (nI 2) (q := 6) dd_Fu_countIncoming_5 rfl (by decide) ?_
    refine zx_icmp_ge 30 (q := 9) dd_Fu_countIncoming_6 rfl (by decide) (fun hc7 => absurd hc7 (by decide)) (fun hc7 => ?_)
    refine zx_aload_n (q := 10) dd_Fu_countIncoming_9 rfl rfl ?_
    refine zx_get (q := 13) dd_Fu_countIncoming_10 rfl fl_Fu_17 (at_f0 hf) rfl ?_
    refine zx_iload_n (q := 14) dd_Fu_countIncoming_13 rfl rfl ?_
    refine zx_aald (q := 15) dd_Fu_countIncoming_14 rfl (fun _ => rfl) (at_f3 hf) rfl (by decide) (by decide) ord_1 ?_
    refine zx_get (q := 18) dd_Fu_countIncoming_15 rfl fl_Fu_88 (at_t1 hf ho) rfl ?_
    refine zx_if_eq 24 (q := 21) dd_Fu_countIncoming_18 rfl (by decide) (fun hc8 => ?_) (fun hc8 => ?_)
    · skip
      replace hc8 := zb_0.mp hc8
      refine zx_iincC_2 2 (q := 27) dd_Fu_countIncoming_24 rfl rfl (by decide) rfl ?_
      refine zx_goto 4 dd_Fu_countIncoming_27 (by decide) ?_
      refine zx_iload_n (q := 5) dd_Fu_countIncoming_4 rfl rfl ?_
      refine zx_iconst (nI 2) (q := 6) dd_Fu_countIncoming_5 rfl (by decide) ?_
      refine zx_icmp_ge 30 (q := 9) dd_Fu_countIncoming_6 rfl (by decide) (fun hc9 => ?_) (fun hc9 => absurd (by decide) hc9)
      refine zx_iload_n (q := 31) dd_Fu_countIncoming_30 rfl rfl ?_
      exact zx_iret dd_Fu_countIncoming_31 rfl (hq _ (by first | (simp [pf_count, hc2, hc8]; done) | (clear hq; simp_all [pf_count]; done)))
    · skip
      replace hc8 := zb_n0.mp hc8
      refine zx_iincC_1 2 (q := 24) dd_Fu_countIncoming_21 rfl rfl (by decide) rfl ?_
      refine zx_iincC_2 2 (q := 27) dd_Fu_countIncoming_24 rfl rfl (by decide) rfl ?_
      refine zx_goto 4 dd_Fu_countIncoming_27 (by decide) ?_
      refine zx_iload_n (q := 5) dd_Fu_countIncoming_4 rfl rfl ?_
      refine zx_iconst (nI 2) (q := 6) dd_Fu_countIncoming_5 rfl (by decide) ?_
      refine zx_icmp_ge 30 (q := 9) dd_Fu_countIncoming_6 rfl (by decide) (fun hc10 => ?_) (fun hc10 => absurd (by decide) hc10)
      refine zx_iload_n (q := 31) dd_Fu_countIncoming_30 rfl rfl ?_
      exact zx_iret dd_Fu_countIncoming_31 rfl (hq _ (by first | (simp [pf_count, hc2, hc8]; done) | (clear hq; simp_all [pf_count]; done)))
set_option maxRecDepth 100000 in
set_option maxHeartbeats 4000000 in
theorem ok_Fu_nextDue {E : zxE} {b f n : Nat} {F : Nat → zFn} {D : zMd} {B : zB} {ad : Int32} {bz : Bool} {nt : Nat → Int32} {o : Nat} {la : zMs} {ou : zOu} {x0 x1 : zIn} {de st : Int32} {nm hd : Int64} {Q : Option Value → zxH → Nat → Prop} (hf : f < 5) (ho : o ≤ 1) (hq : ∀ r, pf_nextDue (ad, bz, nt, o, la, ou, x0, x1, de, st, nm, hd) = r → Q (some (.long r)) (zs b (B, foc F f (ad, bz, nt, o, la, ou, tw o x0 x1, de, st, nm, hd), D)) n) : zx_Ok E my_Fu_nextDue mi_Fu_nextDue [.ref (fa b f 0)] (zs b (B, foc F f (ad, bz, nt, o, la, ou, tw o x0 x1, de, st, nm, hd), D)) n Q := by
  obtain ⟨ph, re, tg, gp, sz, se, nx, du⟩ := ou
  obtain ⟨⟨pk0, so0, gr0, si0, ta0⟩, op0, he0, ex0, lt0, ak0, du0⟩ := x0
  obtain ⟨⟨pk1, so1, gr1, si1, ta1⟩, op1, he1, ex1, lt1, ak1, du1⟩ := x1
  refine zx_start [some (.ref (fa b f 0)), none, none, none] (by decide) rfl rfl (Nat.le_of_ble_eq_true rfl) rfl ?_
  refine zx_aload_n (q := 1) dd_Fu_nextDue_0 rfl rfl ?_
  refine zx_get (q := 4) dd_Fu_nextDue_1 rfl fl_Fu_34 (at_f0 hf) rfl ?_
  refine zx_aload_n (q := 5) dd_Fu_nextDue_4 rfl rfl ?_
  refine zx_get (q := 8) dd_Fu_nextDue_5 rfl fl_Fu_51 (at_f0 hf) rfl ?_
  refine zx_get (q := 11) dd_Fu_nextDue_8 rfl fl_Fu_107 (at_f6 hf) rfl ?_
  refine zx_mminl (q := 14) dd_Fu_nextDue_11 rfl cw_Fu_110 (by decide) (Nat.le_of_ble_eq_true rfl) ⟨Nat.zero_le _, Nat.zero_le _⟩ ?_
  refine zx_lstore_1 (q := 15) dd_Fu_nextDue_14 rfl (by decide) rfl ?_
  refine zx_iconst (nI 0) (q := 16) dd_Fu_nextDue_15 rfl (by decide) ?_
  refine zx_istore_3 (q := 17) dd_Fu_nextDue_16 rfl (by decide) rfl ?_
  refine zx_iload_n (q := 18) dd_Fu_nextDue_17 rfl rfl ?_
  refine zx_iconst (nI 2) (q := 19) dd_Fu_nextDue_18 rfl (by decide) ?_
  refine zx_icmp_ge 42 (q := 22) dd_Fu_nextDue_19 rfl (by decide) (fun hc1 => absurd hc1 (by decide)) (fun hc1 => ?_)
  refine zx_lload_n (q := 23) dd_Fu_nextDue_22 rfl rfl ?_
  refine zx_aload_n (q := 24) dd_Fu_nextDue_23 rfl rfl ?_
  refine zx_get (q := 27) dd_Fu_nextDue_24 rfl fl_Fu_17 (at_f0 hf) rfl ?_
  refine zx_iload_n (q := 28) dd_Fu_nextDue_27 rfl rfl ?_
  refine zx_aald (q := 29) dd_Fu_nextDue_28 rfl (fun _ => rfl) (at_f3 hf) rfl (by decide) (by decide) ord_0 ?_
  refine zx_get (q := 32) dd_Fu_nextDue_29 rfl fl_Fu_116 (at_t0 hf ho) rfl ?_
  refine zx_mminl (q := 35) dd_Fu_nextDue_32 rfl cw_Fu_110 (by decide) (Nat.le_of_ble_eq_true rfl) ⟨Nat.zero_le _, Nat.zero_le _⟩ ?_
  refine zx_lstore_1 (q := 36) dd_Fu_nextDue_35 rfl (by decide) rfl ?_
  refine zx_iincC_3 1 (q := 39) dd_Fu_nextDue_36 rfl rfl (by decide) rfl ?_
  refine zx_goto 17 dd_Fu_nextDue_39 (by decide) ?_
  refine zx_iload_n (q := 18) dd_Fu_nextDue_17 rfl rfl ?_
  refine zx_iconst (nI 2) (q := 19) dd_Fu_nextDue_18 rfl (by decide) ?_
  refine zx_icmp_ge 42 (q := 22) dd_Fu_nextDue_19 rfl (by decide) (fun hc2 => absurd hc2 (by decide)) (fun hc2 => ?_)
  refine zx_lload_n (q := 23) dd_Fu_nextDue_22 rfl rfl ?_
  refine zx_aload_n (q := 24) dd_Fu_nextDue_23 rfl rfl ?_
  refine zx_get (q := 27) dd_Fu_nextDue_24 rfl fl_Fu_17 (at_f0 hf) rfl ?_
  refine zx_iload_n (q := 28) dd_Fu_nextDue_27 rfl rfl ?_
  refine zx_aald (q := 29) dd_Fu_nextDue_28 rfl (fun _ => rfl) (at_f3 hf) rfl (by decide) (by decide) ord_1 ?_
  refine zx_get (q := 32) dd_Fu_nextDue_29 rfl fl_Fu_116 (at_t1 hf ho) rfl ?_
  refine zx_mminl (q := 35) dd_Fu_nextDue_32 rfl cw_Fu_110 (by decide) (Nat.le_of_ble_eq_true rfl) ⟨Nat.zero_le _, Nat.zero_le _⟩ ?_
  refine zx_lstore_1 (q := 36) dd_Fu_nextDue_35 rfl (by decide) rfl ?_
  refine zx_iincC_3 2 (q := 39) dd_Fu_nextDue_36 rfl rfl (by decide) rfl ?_
  refine zx_goto 17 dd_Fu_nextDue_39 (by decide) ?_
  refine zx_iload_n (q := 18) dd_Fu_nextDue_17 rfl rfl ?_
  refine zx_iconst (nI 2) (q := 19) dd_Fu_nextDue_18 rfl (by decide) ?_
  refine zx_icmp_ge 42 (q := 22) dd_Fu_nextDue_19 rfl (by decide) (fun hc3 => ?_) (fun hc3 => absurd (by decide) hc3)
  refine zx_lload_n (q := 43) dd_Fu_nextDue_42 rfl rfl ?_
  exact zx_lret dd_Fu_nextDue_43 rfl (hq _ rfl)
set_option maxRecDepth 100000 in
set_option maxHeartbeats 4000000 in
theorem ok_Fu_goOff {E : zxE} {b f n : Nat} {F : Nat → zFn} {D : zMd} {B : zB} {ad : Int32} {bz : Bool} {nt : Nat → Int32} {o : Nat} {la : zMs} {ou : zOu} {x0 x1 : zIn} {de st : Int32} {nm hd : Int64} {Q : Option Value → zxH → Nat → Prop} (hf : f < 5) (ho : o ≤ 1) (hw : B.2.2.2.1 ≤ 48) (hq : ∀ B' ad' bz' nt' o' la' ou' x0' x1' de' st' nm' hd', pf_goOff B (nI f) (ad, bz, nt, o, la, ou, x0, x1, de, st, nm, hd) = (B', (ad', bz', nt', o', la', ou', x0', x1', de', st', nm', hd')) → B'.2.2.2.1 ≤ 48 → Q none (zs b (B', foc F f (ad', bz', nt', o', la', ou', tw o' x0' x1', de', st', nm', hd'), D)) n) : zx_Ok E my_Fu_goOff mi_Fu_goOff [.ref (fa b f 0)] (zs b (B, foc F f (ad, bz, nt, o, la, ou, tw o x0 x1, de, st, nm, hd), D)) n Q := by
  obtain ⟨ids, con, snd, cnt, ovf, now⟩ := B
  obtain ⟨ph, re, tg, gp, sz, se, nx, du⟩ := ou
  obtain ⟨⟨pk0, so0, gr0, si0, ta0⟩, op0, he0, ex0, lt0, ak0, du0⟩ := x0
  obtain ⟨⟨pk1, so1, gr1, si1, ta1⟩, op1, he1, ex1, lt1, ak1, du1⟩ := x1
  refine zx_start [some (.ref (fa b f 0)), none, none] (by decide) rfl rfl (Nat.le_of_ble_eq_true rfl) rfl ?_
  refine zx_aload_n (q := 1) dd_Fu_goOff_0 rfl rfl ?_
  refine zx_get (q := 4) dd_Fu_goOff_1 rfl fl_Fu_38 (at_f0 hf) rfl ?_
  refine zx_get (q := 7) dd_Fu_goOff_4 rfl fl_Fu_117 at_b1 rfl ?_
  refine zx_lstore_1 (q := 8) dd_Fu_goOff_7 rfl (by decide) rfl ?_
  refine zx_aload_n (q := 9) dd_Fu_goOff_8 rfl rfl ?_
  refine zx_get (q := 12) dd_Fu_goOff_9 rfl fl_Fu_34 (at_f0 hf) rfl ?_
  refine zx_lload_n (q := 13) dd_Fu_goOff_12 rfl rfl ?_
  refine zx_lcmp (q := 14) dd_Fu_goOff_13 rfl ?_
  refine zx_if_ne 32 (q := 17) dd_Fu_goOff_14 rfl (by decide) (fun hc1 => ?_) (fun hc1 => ?_)
  · skip
    replace hc1 := mt lcmp_0.mpr hc1
    refine zx_aload_n (q := 33) dd_Fu_goOff_32 rfl rfl ?_
    refine zx_get (q := 36) dd_Fu_goOff_33 rfl fl_Fu_51 (at_f0 hf) rfl ?_
    refine zx_get (q := 39) dd_Fu_goOff_36 rfl fl_Fu_107 (at_f6 hf) rfl ?_
    refine zx_lload_n (q := 40) dd_Fu_goOff_39 rfl rfl ?_
    refine zx_lcmp (q := 41) dd_Fu_goOff_40 rfl ?_
    refine zx_if_ne 54 (q := 44) dd_Fu_goOff_41 rfl (by decide) (fun hc2 => ?_) (fun hc2 => ?_)
    · skip
      replace hc2 := mt lcmp_0.mpr hc2
      refine zx_aload_n (q := 55) dd_Fu_goOff_54 rfl rfl ?_
      refine zx_get (q := 58) dd_Fu_goOff_55 rfl fl_Fu_17 (at_f0 hf) rfl ?_
      refine zx_iconst (nI 0) (q := 59) dd_Fu_goOff_58 rfl (by decide) ?_
      refine zx_aald (q := 60) dd_Fu_goOff_59 rfl (fun _ => rfl) (at_f3 hf) rfl (by decide) (by decide) ord_0 ?_
      refine zx_get (q := 63) dd_Fu_goOff_60 rfl fl_Fu_116 (at_t0 hf ho) rfl ?_
      refine zx_lload_n (q := 64) dd_Fu_goOff_63 rfl rfl ?_
      refine zx_lcmp (q := 65) dd_Fu_goOff_64 rfl ?_
      refine zx_if_ne 80 (q := 68) dd_Fu_goOff_65 rfl (by decide) (fun hc3 => ?_) (fun hc3 => ?_)
      · skip
        replace hc3 := mt lcmp_0.mpr hc3
        refine zx_aload_n (q := 81) dd_Fu_goOff_80 rfl rfl ?_
        refine zx_get (q := 84) dd_Fu_goOff_81 rfl fl_Fu_17 (at_f0 hf) rfl ?_
        refine zx_iconst (nI 1) (q := 85) dd_Fu_goOff_84 rfl (by decide) ?_
        refine zx_aald (q := 86) dd_Fu_goOff_85 rfl (fun _ => rfl) (at_f3 hf) rfl (by decide) (by decide) ord_1 ?_
        refine zx_get (q := 89) dd_Fu_goOff_86 rfl fl_Fu_116 (at_t1 hf ho) rfl ?_
        refine zx_lload_n (q := 90) dd_Fu_goOff_89 rfl rfl ?_
        refine zx_lcmp (q := 91) dd_Fu_goOff_90 rfl ?_
        refine zx_if_ne 103 (q := 94) dd_Fu_goOff_91 rfl (by decide) (fun hc4 => ?_) (fun hc4 => ?_)
        · skip
          replace hc4 := mt lcmp_0.mpr hc4
          exact zx_vret dd_Fu_goOff_103 rfl (hq _ _ _ _ _ _ _ _ _ _ _ _ _ (by first | (simp [pf_goOff, pc_NEVER, hc1, hc2, hc3, hc4]; done) | (clear hq; simp_all [pf_goOff, pc_NEVER]; done)) hw)
        · skip
          replace hc4 := lcmp_0.mp hc4
          refine zx_aload_n (q := 95) dd_Fu_goOff_94 rfl rfl ?_
          refine zx_get (q := 98) dd_Fu_goOff_95 rfl fl_Fu_17 (at_f0 hf) rfl ?_
          refine zx_iconst (nI 1) (q := 99) dd_Fu_goOff_98 rfl (by decide) ?_
          refine zx_aald (q := 100) dd_Fu_goOff_99 rfl (fun _ => rfl) (at_f3 hf) rfl (by decide) (by decide) ord_1 ?_
          refine zx_cV0v (q := 103) dd_Fu_goOff_100 rfl cv_Fu_goOff_123 ⟨rfl, rfl⟩ (at_t1 hf ho) rfl rfl (Nat.le_of_ble_eq_true rfl) ⟨Nat.zero_le _, Nat.zero_le _⟩ (ok1_In_goOff hf ho hw fun B8 x8 he8 hw8 => ⟨rfl, ?_⟩)
          obtain ⟨ids8, con8, snd8, cnt8, ovf8, now8⟩ := B8
          exact zx_vret dd_Fu_goOff_103 rfl (hq _ _ _ _ _ _ _ _ _ _ _ _ _ (by first | (simp [pf_goOff, pc_NEVER, hc1, hc2, hc3, hc4, he8]; done) | (clear hq; simp_all [pf_goOff, pc_NEVER]; done)) hw8)
      · skip
        replace hc3 := lcmp_0.mp hc3
        refine zx_aload_n (q := 69) dd_Fu_goOff_68 rfl rfl ?_
        refine zx_get (q := 72) dd_Fu_goOff_69 rfl fl_Fu_17 (at_f0 hf) rfl ?_
        refine zx_iconst (nI 0) (q := 73) dd_Fu_goOff_72 rfl (by decide) ?_
        refine zx_aald (q := 74) dd_Fu_goOff_73 rfl (fun _ => rfl) (at_f3 hf) rfl (by decide) (by decide) ord_0 ?_
        refine zx_cV0v (q := 77) dd_Fu_goOff_74 rfl cv_Fu_goOff_123 ⟨rfl, rfl⟩ (at_t0 hf ho) rfl rfl (Nat.le_of_ble_eq_true rfl) ⟨Nat.zero_le _, Nat.zero_le _⟩ (ok0_In_goOff hf ho hw fun B9 x9 he9 hw9 => ⟨rfl, ?_⟩)
        obtain ⟨ids9, con9, snd9, cnt9, ovf9, now9⟩ := B9
        refine zx_goto 103 dd_Fu_goOff_77 (by decide) ?_
        exact zx_vret dd_Fu_goOff_103 rfl (hq _ _ _ _ _ _ _ _ _ _ _ _ _ (by first | (simp [pf_goOff, pc_NEVER, hc1, hc2, hc3, he9]; done) | (clear hq; simp_all [pf_goOff, pc_NEVER]; done)) hw9)
    · skip
      replace hc2 := lcmp_0.mp hc2
      refine zx_aload_n (q := 45) dd_Fu_goOff_44 rfl rfl ?_
      refine zx_get (q := 48) dd_Fu_goOff_45 rfl fl_Fu_51 (at_f0 hf) rfl ?_
      refine zx_cV0v (q := 51) dd_Fu_goOff_48 rfl cv_Fu_goOff_120 ⟨rfl, rfl⟩ (at_f6 hf) rfl rfl (Nat.le_of_ble_eq_true rfl) ⟨Nat.zero_le _, Nat.zero_le _⟩ (ok_Ou_goOff hf hw fun B10 x10 he10 hw10 => ⟨rfl, ?_⟩)
      obtain ⟨ids10, con10, snd10, cnt10, ovf10, now10⟩ := B10
      refine zx_goto 103 dd_Fu_goOff_51 (by decide) ?_
      exact zx_vret dd_Fu_goOff_103 rfl (hq _ _ _ _ _ _ _ _ _ _ _ _ _ (by first | (simp [pf_goOff, pc_NEVER, hc1, hc2, he10]; done) | (clear hq; simp_all [pf_goOff, pc_NEVER]; done)) hw10)
  · skip
    replace hc1 := lcmp_0.mp hc1
    refine zx_aload_n (q := 18) dd_Fu_goOff_17 rfl rfl ?_
    refine zx_iconst (nI 2) (q := 19) dd_Fu_goOff_18 rfl (by decide) ?_
    refine zx_put (q := 22) dd_Fu_goOff_19 rfl fl_Fu_28 (at_f0 hf) rfl rfl (Nat.le_of_ble_eq_true rfl) (up_f0 hf) ?_
    refine zx_aload_n (q := 23) dd_Fu_goOff_22 rfl rfl ?_
    refine zx_ldc2 _ (q := 26) dd_Fu_goOff_23 rfl kk_Fu_32 ?_
    refine zx_put (q := 29) dd_Fu_goOff_26 rfl fl_Fu_34 (at_f0 hf) rfl rfl (Nat.le_of_ble_eq_true rfl) (up_f0 hf) ?_
    refine zx_goto 103 dd_Fu_goOff_29 (by decide) ?_
    exact zx_vret dd_Fu_goOff_103 rfl (hq _ _ _ _ _ _ _ _ _ _ _ _ _ (by first | (simp [pf_goOff, pc_NEVER, hc1]; done) | (clear hq; simp_all [pf_goOff, pc_NEVER]; done)) hw)
set_option maxRecDepth 100000 in
set_option maxHeartbeats 4000000 in
theorem ok_Fu_loseAddress {E : zxE} {b f n : Nat} {F : Nat → zFn} {D : zMd} {B : zB} {ad : Int32} {bz : Bool} {nt : Nat → Int32} {o : Nat} {la : zMs} {ou : zOu} {x0 x1 : zIn} {de st : Int32} {nm hd : Int64} {Q : Option Value → zxH → Nat → Prop} (hf : f < 5) (ho : o ≤ 1) (hw : B.2.2.2.1 ≤ 48) (hq : ∀ B' ad' bz' nt' o' la' ou' x0' x1' de' st' nm' hd', pf_lose B (nI f) (ad, bz, nt, o, la, ou, x0, x1, de, st, nm, hd) = (B', (ad', bz', nt', o', la', ou', x0', x1', de', st', nm', hd')) → B'.2.2.2.1 ≤ 48 → Q none (zs b (B', foc F f (ad', bz', nt', o', la', ou', tw o' x0' x1', de', st', nm', hd'), D)) n) : zx_Ok E my_Fu_loseAddress mi_Fu_loseAddress [.ref (fa b f 0)] (zs b (B, foc F f (ad, bz, nt, o, la, ou, tw o x0 x1, de, st, nm, hd), D)) n Q := by
  obtain ⟨ids, con, snd, cnt, ovf, now⟩ := B
  refine zx_start [some (.ref (fa b f 0)), none] (by decide) rfl rfl (Nat.le_of_ble_eq_true rfl) rfl ?_
  refine zx_aload_n (q := 1) dd_Fu_loseAddress_0 rfl rfl ?_
  refine zx_cV0v (q := 4) dd_Fu_loseAddress_1 rfl cv_Fu_loseAddress_69 ⟨rfl, rfl⟩ (at_f0 hf) rfl rfl (Nat.le_of_ble_eq_true rfl) ⟨Nat.zero_le _, Nat.zero_le _⟩ (ok_Fu_endSessions hf ho fun ad11 bz11 nt11 o11 la11 ou11 x0_11 x1_11 de11 st11 nm11 hd11 he11 => ⟨rfl, ?_⟩)
  refine zx_aload_n (q := 5) dd_Fu_loseAddress_4 rfl rfl ?_
  refine zx_cV0i (q := 8) dd_Fu_loseAddress_5 rfl cv_Fu_loseAddress_140 ⟨rfl, rfl⟩ (at_f0 hf) rfl rfl (Nat.le_of_ble_eq_true rfl) ⟨Nat.zero_le _, Nat.zero_le _⟩ (ok_Fu_spareAddress hf fun r12 he12 => ⟨_, rfl, ?_⟩)
  refine zx_istore_1 (q := 9) dd_Fu_loseAddress_8 rfl (by decide) rfl ?_
  refine zx_aload_n (q := 10) dd_Fu_loseAddress_9 rfl rfl ?_
  refine zx_get (q := 13) dd_Fu_loseAddress_10 rfl fl_Fu_56 (at_f0 hf) rfl ?_
  refine zx_lconst (lN 0) (q := 14) dd_Fu_loseAddress_13 rfl (by decide) ?_
  refine zx_lcmp (q := 15) dd_Fu_loseAddress_14 rfl ?_
  refine zx_if_ge 31 (q := 18) dd_Fu_loseAddress_15 rfl (by decide) (fun hc1 => ?_) (fun hc1 => ?_)
  · skip
    replace hc1 := lcmp_ge.mp hc1
    refine zx_aload_n (q := 32) dd_Fu_loseAddress_31 rfl rfl ?_
    refine zx_iconst (nI 3) (q := 33) dd_Fu_loseAddress_32 rfl (by decide) ?_
    refine zx_put (q := 36) dd_Fu_loseAddress_33 rfl fl_Fu_28 (at_f0 hf) rfl rfl (Nat.le_of_ble_eq_true rfl) (up_f0 hf) ?_
    refine zx_aload_n (q := 37) dd_Fu_loseAddress_36 rfl rfl ?_
    refine zx_get (q := 40) dd_Fu_loseAddress_37 rfl fl_Fu_42 (at_f0 hf) rfl ?_
    refine zx_sipush (nI 254) (q := 43) dd_Fu_loseAddress_40 rfl (by decide) ?_
    refine zx_put (q := 46) dd_Fu_loseAddress_43 rfl fl_Fu_82 (at_f1 hf) rfl rfl (Nat.le_of_ble_eq_true rfl) (up_f1 hf) ?_
    refine zx_aload_n (q := 47) dd_Fu_loseAddress_46 rfl rfl ?_
    refine zx_ldc2 _ (q := 50) dd_Fu_loseAddress_47 rfl kk_Fu_32 ?_
    refine zx_put (q := 53) dd_Fu_loseAddress_50 rfl fl_Fu_34 (at_f0 hf) rfl rfl (Nat.le_of_ble_eq_true rfl) (up_f0 hf) ?_
    refine zx_aload_n (q := 54) dd_Fu_loseAddress_53 rfl rfl ?_
    refine zx_cV0v (q := 57) dd_Fu_loseAddress_54 rfl cv_Fu_loseAddress_96 ⟨rfl, rfl⟩ (at_f0 hf) rfl rfl (Nat.le_of_ble_eq_true rfl) ⟨Nat.zero_le _, Nat.zero_le _⟩ (ok_Fu_sendClaim hf hw fun B13 he13 hw13 => ⟨rfl, ?_⟩)
    obtain ⟨ids13, con13, snd13, cnt13, ovf13, now13⟩ := B13
    exact zx_vret dd_Fu_loseAddress_57 rfl (hq _ _ _ _ _ _ _ _ _ _ _ _ _ (by first | (simp [pf_lose, pc_NEVER, he11, he12, hc1, he13]; done) | (clear hq; simp_all [pf_lose, pc_NEVER]; done)) hw13)
  · skip
    replace hc1 := lcmp_nge.mp hc1
    refine zx_iload_n (q := 19) dd_Fu_loseAddress_18 rfl rfl ?_
    refine zx_sipush (nI 131) (q := 22) dd_Fu_loseAddress_19 rfl (by decide) ?_
    refine zx_icmp_gt 31 (q := 25) dd_Fu_loseAddress_22 rfl (by decide) (fun hc2 => ?_) (fun hc2 => ?_)
    · skip
      refine zx_aload_n (q := 32) dd_Fu_loseAddress_31 rfl rfl ?_
      refine zx_iconst (nI 3) (q := 33) dd_Fu_loseAddress_32 rfl (by decide) ?_
      refine zx_put (q := 36) dd_Fu_loseAddress_33 rfl fl_Fu_28 (at_f0 hf) rfl rfl (Nat.le_of_ble_eq_true rfl) (up_f0 hf) ?_
      refine zx_aload_n (q := 37) dd_Fu_loseAddress_36 rfl rfl ?_
      refine zx_get (q := 40) dd_Fu_loseAddress_37 rfl fl_Fu_42 (at_f0 hf) rfl ?_
      refine zx_sipush (nI 254) (q := 43) dd_Fu_loseAddress_40 rfl (by decide) ?_
      refine zx_put (q := 46) dd_Fu_loseAddress_43 rfl fl_Fu_82 (at_f1 hf) rfl rfl (Nat.le_of_ble_eq_true rfl) (up_f1 hf) ?_
      refine zx_aload_n (q := 47) dd_Fu_loseAddress_46 rfl rfl ?_
      refine zx_ldc2 _ (q := 50) dd_Fu_loseAddress_47 rfl kk_Fu_32 ?_
      refine zx_put (q := 53) dd_Fu_loseAddress_50 rfl fl_Fu_34 (at_f0 hf) rfl rfl (Nat.le_of_ble_eq_true rfl) (up_f0 hf) ?_
      refine zx_aload_n (q := 54) dd_Fu_loseAddress_53 rfl rfl ?_
      refine zx_cV0v (q := 57) dd_Fu_loseAddress_54 rfl cv_Fu_loseAddress_96 ⟨rfl, rfl⟩ (at_f0 hf) rfl rfl (Nat.le_of_ble_eq_true rfl) ⟨Nat.zero_le _, Nat.zero_le _⟩ (ok_Fu_sendClaim hf hw fun B14 he14 hw14 => ⟨rfl, ?_⟩)
      obtain ⟨ids14, con14, snd14, cnt14, ovf14, now14⟩ := B14
      exact zx_vret dd_Fu_loseAddress_57 rfl (hq _ _ _ _ _ _ _ _ _ _ _ _ _ (by first | (simp [pf_lose, pc_NEVER, he11, he12, hc1, hc2, he14]; done) | (clear hq; simp_all [pf_lose, pc_NEVER]; done)) hw14)
    · skip
      refine zx_aload_n (q := 26) dd_Fu_loseAddress_25 rfl rfl ?_
      refine zx_iload_n (q := 27) dd_Fu_loseAddress_26 rfl rfl ?_
      refine zx_cV1v (q := 30) dd_Fu_loseAddress_27 rfl cv_Fu_loseAddress_65 ⟨rfl, rfl⟩ (at_f0 hf) rfl rfl (Nat.le_of_ble_eq_true rfl) ⟨Nat.zero_le _, Nat.zero_le _⟩ (ok_Fu_claim hf hw fun B15 ad15 bz15 nt15 o15 la15 ou15 x0_15 x1_15 de15 st15 nm15 hd15 he15 hw15 => ⟨rfl, ?_⟩)
      obtain ⟨ids15, con15, snd15, cnt15, ovf15, now15⟩ := B15
      exact zx_vret dd_Fu_loseAddress_30 rfl (hq _ _ _ _ _ _ _ _ _ _ _ _ _ (by first | (simp [pf_lose, pc_NEVER, he11, he12, hc1, hc2, he15]; done) | (clear hq; simp_all [pf_lose, pc_NEVER]; done)) hw15)
set_option maxRecDepth 100000 in
set_option maxHeartbeats 4000000 in
theorem ok_Fu_takeClaim {E : zxE} {b f n : Nat} {F : Nat → zFn} {D : zMd} {B : zB} {ad : Int32} {bz : Bool} {nt : Nat → Int32} {o : Nat} {la : zMs} {ou : zOu} {x0 x1 : zIn} {de st : Int32} {nm hd : Int64} {Q : Option Value → zxH → Nat → Prop} {s : Nat} {src : Int32} {d : Int64} (hf : f < 5) (ho : o ≤ 1) (hw : B.2.2.2.1 ≤ 48) (hs : s < 5) (hq : ∀ B' ad' bz' nt' o' la' ou' x0' x1' de' st' nm' hd', pf_takeClaim B (nI f) (ad, bz, nt, o, la, ou, x0, x1, de, st, nm, hd) s src d = (B', (ad', bz', nt', o', la', ou', x0', x1', de', st', nm', hd')) → B'.2.2.2.1 ≤ 48 → Q none (zs b (B', foc F f (ad', bz', nt', o', la', ou', tw o' x0' x1', de', st', nm', hd'), D)) n) : zx_Ok E my_Fu_takeClaim mi_Fu_takeClaim [.ref (fa b f 0), .int (nI s), .int src, .long d] (zs b (B, foc F f (ad, bz, nt, o, la, ou, tw o x0 x1, de, st, nm, hd), D)) n Q := by
  obtain ⟨ids, con, snd, cnt, ovf, now⟩ := B
  refine zx_start [some (.ref (fa b f 0)), some (.int (nI s)), some (.int src), some (.long d), none] (by decide) rfl rfl (Nat.le_of_ble_eq_true rfl) rfl ?_
  refine zx_aload_n (q := 1) dd_Fu_takeClaim_0 rfl rfl ?_
  refine zx_get (q := 4) dd_Fu_takeClaim_1 rfl fl_Fu_9 (at_f0 hf) rfl ?_
  refine zx_iload_n (q := 5) dd_Fu_takeClaim_4 rfl rfl ?_
  refine zx_iload_n (q := 6) dd_Fu_takeClaim_5 rfl rfl ?_
  refine zx_iast (q := 7) dd_Fu_takeClaim_6 rfl (at_f2 hf) rfl (by omega) (by decide) (up_f2 hf) ?_
  refine zx_aload_n (q := 8) dd_Fu_takeClaim_7 rfl rfl ?_
  refine zx_get (q := 11) dd_Fu_takeClaim_8 rfl fl_Fu_28 (at_f0 hf) rfl ?_
  refine zx_iconst (nI 3) (q := 12) dd_Fu_takeClaim_11 rfl (by decide) ?_
  refine zx_icmp_eq 26 (q := 15) dd_Fu_takeClaim_12 rfl (by decide) (fun hc1 => ?_) (fun hc1 => ?_)
  · skip
    exact zx_vret dd_Fu_takeClaim_26 rfl (hq _ _ _ _ _ _ _ _ _ _ _ _ _ (by first | (simp [pf_takeClaim, eq_true hc1]; done) | (clear hq; simp_all [pf_takeClaim]; done)) hw)
  · skip
    refine zx_iload_n (q := 16) dd_Fu_takeClaim_15 rfl rfl ?_
    refine zx_aload_n (q := 17) dd_Fu_takeClaim_16 rfl rfl ?_
    refine zx_get (q := 20) dd_Fu_takeClaim_17 rfl fl_Fu_42 (at_f0 hf) rfl ?_
    refine zx_get (q := 23) dd_Fu_takeClaim_20 rfl fl_Fu_82 (at_f1 hf) rfl ?_
    refine zx_icmp_eq 27 (q := 26) dd_Fu_takeClaim_23 rfl (by decide) (fun hc2 => ?_) (fun hc2 => ?_)
    · skip
      refine zx_aload_n (q := 28) dd_Fu_takeClaim_27 rfl rfl ?_
      refine zx_lload_n (q := 29) dd_Fu_takeClaim_28 rfl rfl ?_
      refine zx_cV1i (q := 32) dd_Fu_takeClaim_29 rfl cv_Fu_takeClaim_131 ⟨rfl, rfl⟩ (at_f0 hf) rfl rfl (Nat.le_of_ble_eq_true rfl) ⟨Nat.zero_le _, Nat.zero_le _⟩ (ok_Fu_isNameLessThan hf fun r16 he16 => ⟨_, rfl, ?_⟩)
      refine zx_if_ne 40 (q := 35) dd_Fu_takeClaim_32 rfl (by decide) (fun hc3 => ?_) (fun hc3 => ?_)
      · skip
        replace hc3 := zb_n0.mp hc3
        refine zx_aload_n (q := 41) dd_Fu_takeClaim_40 rfl rfl ?_
        refine zx_cV0v (q := 44) dd_Fu_takeClaim_41 rfl cv_Fu_takeClaim_96 ⟨rfl, rfl⟩ (at_f0 hf) rfl rfl (Nat.le_of_ble_eq_true rfl) ⟨Nat.zero_le _, Nat.zero_le _⟩ (ok_Fu_sendClaim hf hw fun B17 he17 hw17 => ⟨rfl, ?_⟩)
        obtain ⟨ids17, con17, snd17, cnt17, ovf17, now17⟩ := B17
        refine zx_aload_n (q := 45) dd_Fu_takeClaim_44 rfl rfl ?_
        refine zx_get (q := 48) dd_Fu_takeClaim_45 rfl fl_Fu_28 (at_f0 hf) rfl ?_
        refine zx_iconst (nI 1) (q := 49) dd_Fu_takeClaim_48 rfl (by decide) ?_
        refine zx_icmp_ne 67 (q := 52) dd_Fu_takeClaim_49 rfl (by decide) (fun hc4 => ?_) (fun hc4 => ?_)
        · skip
          exact zx_vret dd_Fu_takeClaim_67 rfl (hq _ _ _ _ _ _ _ _ _ _ _ _ _ (by first | (simp [pf_takeClaim, hc1, eq_true hc2, he16, hc3, he17, hc4]; done) | (clear hq; simp_all [pf_takeClaim]; done)) hw17)
        · skip
          refine zx_aload_n (q := 53) dd_Fu_takeClaim_52 rfl rfl ?_
          refine zx_aload_n (q := 54) dd_Fu_takeClaim_53 rfl rfl ?_
          refine zx_get (q := 57) dd_Fu_takeClaim_54 rfl fl_Fu_38 (at_f0 hf) rfl ?_
          refine zx_get (q := 60) dd_Fu_takeClaim_57 rfl fl_Fu_117 at_b1 rfl ?_
          refine zx_ldc2 _ (q := 63) dd_Fu_takeClaim_60 rfl kk_Fu_124 ?_
          refine zx_ladd (q := 64) dd_Fu_takeClaim_63 rfl ?_
          refine zx_put (q := 67) dd_Fu_takeClaim_64 rfl fl_Fu_34 (at_f0 hf) rfl rfl (Nat.le_of_ble_eq_true rfl) (up_f0 hf) ?_
          exact zx_vret dd_Fu_takeClaim_67 rfl (hq _ _ _ _ _ _ _ _ _ _ _ _ _ (by first | (simp [pf_takeClaim, hc1, eq_true hc2, he16, hc3, he17, eq_true hc4]; done) | (clear hq; simp_all [pf_takeClaim]; done)) hw17)
      · skip
        replace hc3 := zb_0.mp hc3
        refine zx_aload_n (q := 36) dd_Fu_takeClaim_35 rfl rfl ?_
        refine zx_cV0v (q := 39) dd_Fu_takeClaim_36 rfl cv_Fu_takeClaim_135 ⟨rfl, rfl⟩ (at_f0 hf) rfl rfl (Nat.le_of_ble_eq_true rfl) ⟨Nat.zero_le _, Nat.zero_le _⟩ (ok_Fu_loseAddress hf ho hw fun B18 ad18 bz18 nt18 o18 la18 ou18 x0_18 x1_18 de18 st18 nm18 hd18 he18 hw18 => ⟨rfl, ?_⟩)
        obtain ⟨ids18, con18, snd18, cnt18, ovf18, now18⟩ := B18
        exact zx_vret dd_Fu_takeClaim_39 rfl (hq _ _ _ _ _ _ _ _ _ _ _ _ _ (by first | (simp [pf_takeClaim, hc1, eq_true hc2, he16, hc3, he18]; done) | (clear hq; simp_all [pf_takeClaim]; done)) hw18)
    · skip
      exact zx_vret dd_Fu_takeClaim_26 rfl (hq _ _ _ _ _ _ _ _ _ _ _ _ _ (by first | (simp [pf_takeClaim, hc1, hc2]; done) | (clear hq; simp_all [pf_takeClaim]; done)) hw)
