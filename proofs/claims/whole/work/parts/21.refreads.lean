set_option maxRecDepth 100000 in
set_option maxHeartbeats 4000000 in
theorem ok_Md_state {E : zxE} {b n : Nat} {B : zB} {F : Nat → zFn} {D : zMd} {Q : Option Value → zxH → Nat → Prop} {x : Int32} (hq : ∀ r, pm_state D.2.2.2.1 x = r → Q (some (.int r)) (zs b (B, F, D)) n) : zx_Ok E my_Md_state mi_Md_state [.ref (b + 71), .int x] (zs b (B, F, D)) n Q := by
  obtain ⟨t, fr, lo, I, J⟩ := D
  refine zx_start [some (.ref (b + 71)), some (.int x)] (by decide) rfl rfl (Nat.le_of_ble_eq_true rfl) rfl ?_
  refine zx_iload_n (q := 1) dd_Md_state_0 rfl rfl ?_
  refine zx_if_lt 9 (q := 4) dd_Md_state_1 rfl (by decide) (fun hc1 => ?_) (fun hc1 => ?_)
  · skip
    refine zx_iconst (-1) (q := 10) dd_Md_state_9 rfl (by decide) ?_
    refine zx_goto 19 dd_Md_state_10 (by decide) ?_
    exact zx_iret dd_Md_state_19 rfl (hq _ (by first | (simp [pm_state, hc1]; done) | (clear hq; simp_all [pm_state]; done)))
  · skip
    refine zx_iload_n (q := 5) dd_Md_state_4 rfl rfl ?_
    refine zx_iconst (nI 4) (q := 6) dd_Md_state_5 rfl (by decide) ?_
    refine zx_icmp_le 13 (q := 9) dd_Md_state_6 rfl (by decide) (fun hc2 => ?_) (fun hc2 => ?_)
    · skip
      replace hc2 : ¬ nI 4 < x := fun z => Int32.lt_irrefl (Int32.lt_of_lt_of_le z hc2)
      obtain ⟨f, hf, rfl⟩ := pm_in hc1 hc2
      refine zx_aload_n (q := 14) dd_Md_state_13 rfl rfl ?_
      refine zx_get (q := 17) dd_Md_state_14 rfl fl_Md_7 at_m rfl ?_
      refine zx_iload_n (q := 18) dd_Md_state_17 rfl rfl ?_
      refine zx_iald (q := 19) dd_Md_state_18 rfl at_m0 rfl (by omega) (by decide) ?_
      exact zx_iret dd_Md_state_19 rfl (hq _ (by first | (simp [pm_state, hc1, hc2, pa_cl hf]; done) | (clear hq; simp_all [pm_state]; done)))
    · skip
      replace hc2 : nI 4 < x := Int32.not_le.mp hc2
      refine zx_iconst (-1) (q := 10) dd_Md_state_9 rfl (by decide) ?_
      refine zx_goto 19 dd_Md_state_10 (by decide) ?_
      exact zx_iret dd_Md_state_19 rfl (hq _ (by first | (simp [pm_state, hc1, hc2]; done) | (clear hq; simp_all [pm_state]; done)))
set_option maxRecDepth 100000 in
set_option maxHeartbeats 4000000 in
theorem ok_Md_address {E : zxE} {b n : Nat} {B : zB} {F : Nat → zFn} {D : zMd} {Q : Option Value → zxH → Nat → Prop} {x : Int32} (hq : ∀ r, pm_address D.2.2.2.1 x = r → Q (some (.int r)) (zs b (B, F, D)) n) : zx_Ok E my_Md_address mi_Md_address [.ref (b + 71), .int x] (zs b (B, F, D)) n Q := by
  obtain ⟨t, fr, lo, I, J⟩ := D
  refine zx_start [some (.ref (b + 71)), some (.int x)] (by decide) rfl rfl (Nat.le_of_ble_eq_true rfl) rfl ?_
  refine zx_aload_n (q := 1) dd_Md_address_0 rfl rfl ?_
  refine zx_iload_n (q := 2) dd_Md_address_1 rfl rfl ?_
  refine zx_cV1i (q := 5) dd_Md_address_2 rfl cv_Md_address_156 ⟨rfl, rfl⟩ at_m rfl rfl (Nat.le_of_ble_eq_true rfl) ⟨Nat.zero_le _, Nat.zero_le _⟩ (ok_Md_on fun r1 he1 => ⟨_, rfl, ?_⟩)
  refine zx_if_eq 16 (q := 8) dd_Md_address_5 rfl (by decide) (fun hc1 => ?_) (fun hc1 => ?_)
  · skip
    replace hc1 := zb_0.mp hc1
    refine zx_iconst (-1) (q := 17) dd_Md_address_16 rfl (by decide) ?_
    exact zx_iret dd_Md_address_17 rfl (hq _ (by first | (simp [pm_address, he1, hc1]; done) | (clear hq; simp_all [pm_address]; done)))
  · skip
    replace hc1 := zb_n0.mp hc1
    subst hc1
    obtain ⟨f, hf, rfl⟩ := pm_on_n he1
    refine zx_aload_n (q := 9) dd_Md_address_8 rfl rfl ?_
    refine zx_iload_n (q := 10) dd_Md_address_9 rfl rfl ?_
    refine zx_cV1i (q := 13) dd_Md_address_10 rfl cv_Md_address_112 ⟨rfl, rfl⟩ at_m rfl rfl (Nat.le_of_ble_eq_true rfl) ⟨Nat.zero_le _, Nat.zero_le _⟩ (ok_Md_source hf fun r2 he2 => ⟨_, rfl, ?_⟩)
    refine zx_goto 17 dd_Md_address_13 (by decide) ?_
    exact zx_iret dd_Md_address_17 rfl (hq _ (by first | (simp [pm_address, he1, pa_cl hf, he2]; done) | (clear hq; simp_all [pm_address]; done)))
set_option maxRecDepth 100000 in
set_option maxHeartbeats 4000000 in
theorem ok_Md_noted {E : zxE} {b n : Nat} {B : zB} {F : Nat → zFn} {D : zMd} {Q : Option Value → zxH → Nat → Prop} {x y : Int32} (hq : ∀ r, pm_noted D.2.2.2.1 x y = r → Q (some (.int r)) (zs b (B, F, D)) n) : zx_Ok E my_Md_noted mi_Md_noted [.ref (b + 71), .int x, .int y] (zs b (B, F, D)) n Q := by
  obtain ⟨t, fr, lo, I, J⟩ := D
  refine zx_start [some (.ref (b + 71)), some (.int x), some (.int y)] (by decide) rfl rfl (Nat.le_of_ble_eq_true rfl) rfl ?_
  refine zx_aload_n (q := 1) dd_Md_noted_0 rfl rfl ?_
  refine zx_iload_n (q := 2) dd_Md_noted_1 rfl rfl ?_
  refine zx_cV1i (q := 5) dd_Md_noted_2 rfl cv_Md_noted_156 ⟨rfl, rfl⟩ at_m rfl rfl (Nat.le_of_ble_eq_true rfl) ⟨Nat.zero_le _, Nat.zero_le _⟩ (ok_Md_on fun r3 he3 => ⟨_, rfl, ?_⟩)
  refine zx_if_eq 30 (q := 8) dd_Md_noted_5 rfl (by decide) (fun hc1 => ?_) (fun hc1 => ?_)
  · skip
    replace hc1 := zb_0.mp hc1
    refine zx_iconst (-1) (q := 31) dd_Md_noted_30 rfl (by decide) ?_
    exact zx_iret dd_Md_noted_31 rfl (hq _ (by first | (simp [pm_noted, he3, hc1]; done) | (clear hq; simp_all [pm_noted]; done)))
  · skip
    replace hc1 := zb_n0.mp hc1
    subst hc1
    obtain ⟨f, hf, rfl⟩ := pm_on_n he3
    refine zx_iload_n (q := 9) dd_Md_noted_8 rfl rfl ?_
    refine zx_if_lt 30 (q := 12) dd_Md_noted_9 rfl (by decide) (fun hc2 => ?_) (fun hc2 => ?_)
    · skip
      refine zx_iconst (-1) (q := 31) dd_Md_noted_30 rfl (by decide) ?_
      exact zx_iret dd_Md_noted_31 rfl (hq _ (by first | (simp [pm_noted, he3, pa_cl hf, hc2]; done) | (clear hq; simp_all [pm_noted]; done)))
    · skip
      refine zx_iload_n (q := 13) dd_Md_noted_12 rfl rfl ?_
      refine zx_iconst (nI 4) (q := 14) dd_Md_noted_13 rfl (by decide) ?_
      refine zx_icmp_gt 30 (q := 17) dd_Md_noted_14 rfl (by decide) (fun hc3 => ?_) (fun hc3 => ?_)
      · skip
        refine zx_iconst (-1) (q := 31) dd_Md_noted_30 rfl (by decide) ?_
        exact zx_iret dd_Md_noted_31 rfl (hq _ (by first | (simp [pm_noted, he3, pa_cl hf, hc2, hc3]; done) | (clear hq; simp_all [pm_noted]; done)))
      · skip
        obtain ⟨g, hg, rfl⟩ := pm_in hc2 hc3
        refine zx_aload_n (q := 18) dd_Md_noted_17 rfl rfl ?_
        refine zx_get (q := 21) dd_Md_noted_18 rfl fl_Md_27 at_m rfl ?_
        refine zx_iconst (nI 5) (q := 22) dd_Md_noted_21 rfl (by decide) ?_
        refine zx_iload_n (q := 23) dd_Md_noted_22 rfl rfl ?_
        refine zx_imul (q := 24) dd_Md_noted_23 rfl ?_
        refine zx_topi (pk_mul _ _) ?_
        refine zx_iload_n (q := 25) dd_Md_noted_24 rfl rfl ?_
        refine zx_iadd (q := 26) dd_Md_noted_25 rfl ?_
        refine zx_topi (nI_add _ _) ?_
        refine zx_iald (q := 27) dd_Md_noted_26 rfl at_m5 rfl (by omega) (by decide) ?_
        refine zx_goto 31 dd_Md_noted_27 (by decide) ?_
        exact zx_iret dd_Md_noted_31 rfl (hq _ (by first | (simp [pm_noted, he3, pa_cl hf, hc2, hc3, pa_cl hg]; done) | (clear hq; simp_all [pm_noted]; done)))
set_option maxRecDepth 100000 in
set_option maxHeartbeats 4000000 in
theorem ok_Md_request {E : zxE} {b n : Nat} {B : zB} {F : Nat → zFn} {D : zMd} {Q : Option Value → zxH → Nat → Prop} {x : Int32} (hw : D.2.1 ≤ 48) (hq : ∀ r D', pm_request D x = (r, D') → Q (some (.int (zb r))) (zs b (B, F, D')) n) : zx_Ok E my_Md_request mi_Md_request [.ref (b + 71), .int x] (zs b (B, F, D)) n Q := by
  obtain ⟨t, fr, lo, I, J⟩ := D
  refine zx_start [some (.ref (b + 71)), some (.int x)] (by decide) rfl rfl (Nat.le_of_ble_eq_true rfl) rfl ?_
  refine zx_aload_n (q := 1) dd_Md_request_0 rfl rfl ?_
  refine zx_iload_n (q := 2) dd_Md_request_1 rfl rfl ?_
  refine zx_cV1i (q := 5) dd_Md_request_2 rfl cv_Md_request_156 ⟨rfl, rfl⟩ at_m rfl rfl (Nat.le_of_ble_eq_true rfl) ⟨Nat.zero_le _, Nat.zero_le _⟩ (ok_Md_on fun r4 he4 => ⟨_, rfl, ?_⟩)
  refine zx_if_ne 10 (q := 8) dd_Md_request_5 rfl (by decide) (fun hc1 => ?_) (fun hc1 => ?_)
  · skip
    replace hc1 := zb_n0.mp hc1
    subst hc1
    obtain ⟨f, hf, rfl⟩ := pm_on_n he4
    refine zx_aload_n (q := 11) dd_Md_request_10 rfl rfl ?_
    refine zx_iload_n (q := 12) dd_Md_request_11 rfl rfl ?_
    refine zx_bipush (nI 6) (q := 14) dd_Md_request_12 rfl (by decide) ?_
    refine zx_sipush (nI 234) (q := 17) dd_Md_request_14 rfl (by decide) ?_
    refine zx_sipush (nI 255) (q := 20) dd_Md_request_17 rfl (by decide) ?_
    refine zx_ldc2 _ (q := 23) dd_Md_request_20 rfl kk_Md_160 ?_
    refine zx_cV5v (q := 26) dd_Md_request_23 rfl cv_Md_request_116 ⟨rfl, rfl⟩ at_m rfl rfl (Nat.le_of_ble_eq_true rfl) ⟨Nat.zero_le _, Nat.zero_le _⟩ (ok_Md_put hf hw fun D5 he5 hw5 => ⟨rfl, ?_⟩)
    obtain ⟨t5, fr5, lo5, I5, J5⟩ := D5
    refine zx_iconst (nI 1) (q := 27) dd_Md_request_26 rfl (by decide) ?_
    exact zx_zret dd_Md_request_27 rfl (by decide) (by rw [zb_1]; exact hq _ _ (by first | (simp [pm_request, he4, pa_cl hf, he5]; done) | (clear hq; simp_all [pm_request]; done)))
  · skip
    replace hc1 := zb_0.mp hc1
    refine zx_iconst (nI 0) (q := 9) dd_Md_request_8 rfl (by decide) ?_
    exact zx_zret dd_Md_request_9 rfl (by decide) (by rw [zb_f]; exact hq _ _ (by first | (simp [pm_request, he4, hc1]; done) | (clear hq; simp_all [pm_request]; done)))
set_option maxRecDepth 100000 in
set_option maxHeartbeats 4000000 in
theorem ok_Md_busy {E : zxE} {b n : Nat} {B : zB} {F : Nat → zFn} {D : zMd} {Q : Option Value → zxH → Nat → Prop} {x y : Int32} (hq : ∀ r D', pm_busy D x y = (r, D') → Q (some (.int (zb r))) (zs b (B, F, D')) n) : zx_Ok E my_Md_busy mi_Md_busy [.ref (b + 71), .int x, .int y] (zs b (B, F, D)) n Q := by
  obtain ⟨t, fr, lo, I, J⟩ := D
  refine zx_start [some (.ref (b + 71)), some (.int x), some (.int y)] (by decide) rfl rfl (Nat.le_of_ble_eq_true rfl) rfl ?_
  refine zx_iload_n (q := 1) dd_Md_busy_0 rfl rfl ?_
  refine zx_if_lt 19 (q := 4) dd_Md_busy_1 rfl (by decide) (fun hc1 => ?_) (fun hc1 => ?_)
  · skip
    refine zx_iconst (nI 0) (q := 20) dd_Md_busy_19 rfl (by decide) ?_
    exact zx_zret dd_Md_busy_20 rfl (by decide) (by rw [zb_f]; exact hq _ _ (by first | (simp [pm_busy, hc1]; done) | (clear hq; simp_all [pm_busy]; done)))
  · skip
    refine zx_iload_n (q := 5) dd_Md_busy_4 rfl rfl ?_
    refine zx_iconst (nI 4) (q := 6) dd_Md_busy_5 rfl (by decide) ?_
    refine zx_icmp_gt 19 (q := 9) dd_Md_busy_6 rfl (by decide) (fun hc2 => ?_) (fun hc2 => ?_)
    · skip
      refine zx_iconst (nI 0) (q := 20) dd_Md_busy_19 rfl (by decide) ?_
      exact zx_zret dd_Md_busy_20 rfl (by decide) (by rw [zb_f]; exact hq _ _ (by first | (simp [pm_busy, hc1, hc2]; done) | (clear hq; simp_all [pm_busy]; done)))
    · skip
      obtain ⟨f, hf, rfl⟩ := pm_in hc1 hc2
      refine zx_aload_n (q := 10) dd_Md_busy_9 rfl rfl ?_
      refine zx_get (q := 13) dd_Md_busy_10 rfl fl_Md_20 at_m rfl ?_
      refine zx_iload_n (q := 14) dd_Md_busy_13 rfl rfl ?_
      refine zx_zald (q := 15) dd_Md_busy_14 rfl at_m3 rfl (by omega) (by decide) ?_
      refine zx_iload_n (q := 16) dd_Md_busy_15 rfl rfl ?_
      refine zx_icmp_ne 21 (q := 19) dd_Md_busy_16 rfl (by decide) (fun hc3 => ?_) (fun hc3 => ?_)
      · skip
        refine zx_aload_n (q := 22) dd_Md_busy_21 rfl rfl ?_
        refine zx_get (q := 25) dd_Md_busy_22 rfl fl_Md_20 at_m rfl ?_
        refine zx_iload_n (q := 26) dd_Md_busy_25 rfl rfl ?_
        refine zx_iload_n (q := 27) dd_Md_busy_26 rfl rfl ?_
        refine zx_zast (q := 28) dd_Md_busy_27 rfl at_m3 rfl (by omega) (by decide) up_m3 ?_
        refine zx_iconst (nI 1) (q := 29) dd_Md_busy_28 rfl (by decide) ?_
        exact zx_zret dd_Md_busy_29 rfl (by decide) (by rw [zb_1]; exact hq _ _ (by first | (simp [pm_busy, hc1, hc2, pa_cl hf, hc3]; done) | (clear hq; simp_all [pm_busy]; done)))
      · skip
        refine zx_iconst (nI 0) (q := 20) dd_Md_busy_19 rfl (by decide) ?_
        exact zx_zret dd_Md_busy_20 rfl (by decide) (by rw [zb_f]; exact hq _ _ (by first | (simp [pm_busy, hc1, hc2, pa_cl hf, eq_true hc3]; done) | (clear hq; simp_all [pm_busy]; done)))
set_option maxRecDepth 100000 in
set_option maxHeartbeats 4000000 in
theorem ok_Md_outgoing {E : zxE} {b n : Nat} {B : zB} {F : Nat → zFn} {D : zMd} {Q : Option Value → zxH → Nat → Prop} {x : Int32} (hq : ∀ r, pm_outgoing D.2.2.2.1 x = r → Q (some (.int r)) (zs b (B, F, D)) n) : zx_Ok E my_Md_outgoing mi_Md_outgoing [.ref (b + 71), .int x] (zs b (B, F, D)) n Q := by
  obtain ⟨t, fr, lo, I, J⟩ := D
  refine zx_start [some (.ref (b + 71)), some (.int x)] (by decide) rfl rfl (Nat.le_of_ble_eq_true rfl) rfl ?_
  refine zx_aload_n (q := 1) dd_Md_outgoing_0 rfl rfl ?_
  refine zx_iload_n (q := 2) dd_Md_outgoing_1 rfl rfl ?_
  refine zx_cV1i (q := 5) dd_Md_outgoing_2 rfl cv_Md_outgoing_156 ⟨rfl, rfl⟩ at_m rfl rfl (Nat.le_of_ble_eq_true rfl) ⟨Nat.zero_le _, Nat.zero_le _⟩ (ok_Md_on fun r6 he6 => ⟨_, rfl, ?_⟩)
  refine zx_if_ne 12 (q := 8) dd_Md_outgoing_5 rfl (by decide) (fun hc1 => ?_) (fun hc1 => ?_)
  · skip
    replace hc1 := zb_n0.mp hc1
    subst hc1
    obtain ⟨f, hf, rfl⟩ := pm_on_n he6
    refine zx_aload_n (q := 13) dd_Md_outgoing_12 rfl rfl ?_
    refine zx_get (q := 16) dd_Md_outgoing_13 rfl fl_Md_39 at_m rfl ?_
    refine zx_iload_n (q := 17) dd_Md_outgoing_16 rfl rfl ?_
    refine zx_iald (q := 18) dd_Md_outgoing_17 rfl at_m9 rfl (by omega) (by decide) ?_
    refine zx_if_le 30 (q := 21) dd_Md_outgoing_18 rfl (by decide) (fun hc2 => ?_) (fun hc2 => ?_)
    · skip
      refine zx_aload_n (q := 31) dd_Md_outgoing_30 rfl rfl ?_
      refine zx_get (q := 34) dd_Md_outgoing_31 rfl fl_Md_42 at_m rfl ?_
      refine zx_iload_n (q := 35) dd_Md_outgoing_34 rfl rfl ?_
      refine zx_iald (q := 36) dd_Md_outgoing_35 rfl at_m10 rfl (by omega) (by decide) ?_
      exact zx_iret dd_Md_outgoing_36 rfl (hq _ (by first | (simp [pm_outgoing, he6, pa_cl hf, hc2]; done) | (clear hq; simp_all [pm_outgoing]; done)))
    · skip
      refine zx_aload_n (q := 22) dd_Md_outgoing_21 rfl rfl ?_
      refine zx_get (q := 25) dd_Md_outgoing_22 rfl fl_Md_39 at_m rfl ?_
      refine zx_iload_n (q := 26) dd_Md_outgoing_25 rfl rfl ?_
      refine zx_iald (q := 27) dd_Md_outgoing_26 rfl at_m9 rfl (by omega) (by decide) ?_
      refine zx_goto 36 dd_Md_outgoing_27 (by decide) ?_
      exact zx_iret dd_Md_outgoing_36 rfl (hq _ (by first | (simp [pm_outgoing, he6, pa_cl hf, hc2]; done) | (clear hq; simp_all [pm_outgoing]; done)))
  · skip
    replace hc1 := zb_0.mp hc1
    refine zx_iconst (-1) (q := 9) dd_Md_outgoing_8 rfl (by decide) ?_
    refine zx_goto 36 dd_Md_outgoing_9 (by decide) ?_
    exact zx_iret dd_Md_outgoing_36 rfl (hq _ (by first | (simp [pm_outgoing, he6, hc1]; done) | (clear hq; simp_all [pm_outgoing]; done)))
set_option maxRecDepth 100000 in
set_option maxHeartbeats 4000000 in
theorem ok_Md_incoming {E : zxE} {b n : Nat} {B : zB} {F : Nat → zFn} {D : zMd} {Q : Option Value → zxH → Nat → Prop} {x : Int32} (hq : ∀ r, pm_incoming D.2.2.2.1 x = r → Q (some (.int r)) (zs b (B, F, D)) n) : zx_Ok E my_Md_incoming mi_Md_incoming [.ref (b + 71), .int x] (zs b (B, F, D)) n Q := by
  obtain ⟨t, fr, lo, I, J⟩ := D
  refine zx_start [some (.ref (b + 71)), some (.int x)] (by decide) rfl rfl (Nat.le_of_ble_eq_true rfl) rfl ?_
  refine zx_aload_n (q := 1) dd_Md_incoming_0 rfl rfl ?_
  refine zx_iload_n (q := 2) dd_Md_incoming_1 rfl rfl ?_
  refine zx_cV1i (q := 5) dd_Md_incoming_2 rfl cv_Md_incoming_156 ⟨rfl, rfl⟩ at_m rfl rfl (Nat.le_of_ble_eq_true rfl) ⟨Nat.zero_le _, Nat.zero_le _⟩ (ok_Md_on fun r7 he7 => ⟨_, rfl, ?_⟩)
  refine zx_if_eq 17 (q := 8) dd_Md_incoming_5 rfl (by decide) (fun hc1 => ?_) (fun hc1 => ?_)
  · skip
    replace hc1 := zb_0.mp hc1
    refine zx_iconst (-1) (q := 18) dd_Md_incoming_17 rfl (by decide) ?_
    exact zx_iret dd_Md_incoming_18 rfl (hq _ (by first | (simp [pm_incoming, he7, hc1]; done) | (clear hq; simp_all [pm_incoming]; done)))
  · skip
    replace hc1 := zb_n0.mp hc1
    subst hc1
    obtain ⟨f, hf, rfl⟩ := pm_on_n he7
    refine zx_aload_n (q := 9) dd_Md_incoming_8 rfl rfl ?_
    refine zx_get (q := 12) dd_Md_incoming_9 rfl fl_Md_63 at_m rfl ?_
    refine zx_iload_n (q := 13) dd_Md_incoming_12 rfl rfl ?_
    refine zx_iald (q := 14) dd_Md_incoming_13 rfl at_m17 rfl (by omega) (by decide) ?_
    refine zx_goto 18 dd_Md_incoming_14 (by decide) ?_
    exact zx_iret dd_Md_incoming_18 rfl (hq _ (by first | (simp [pm_incoming, he7, pa_cl hf]; done) | (clear hq; simp_all [pm_incoming]; done)))
set_option maxRecDepth 100000 in
set_option maxHeartbeats 4000000 in
theorem ok_Md_delivered {E : zxE} {b n : Nat} {B : zB} {F : Nat → zFn} {D : zMd} {Q : Option Value → zxH → Nat → Prop} {x : Int32} (hq : ∀ r, pm_delivered D.2.2.2.1 x = r → Q (some (.int r)) (zs b (B, F, D)) n) : zx_Ok E my_Md_delivered mi_Md_delivered [.ref (b + 71), .int x] (zs b (B, F, D)) n Q := by
  obtain ⟨t, fr, lo, I, J⟩ := D
  refine zx_start [some (.ref (b + 71)), some (.int x)] (by decide) rfl rfl (Nat.le_of_ble_eq_true rfl) rfl ?_
  refine zx_aload_n (q := 1) dd_Md_delivered_0 rfl rfl ?_
  refine zx_iload_n (q := 2) dd_Md_delivered_1 rfl rfl ?_
  refine zx_cV1i (q := 5) dd_Md_delivered_2 rfl cv_Md_delivered_156 ⟨rfl, rfl⟩ at_m rfl rfl (Nat.le_of_ble_eq_true rfl) ⟨Nat.zero_le _, Nat.zero_le _⟩ (ok_Md_on fun r8 he8 => ⟨_, rfl, ?_⟩)
  refine zx_if_eq 17 (q := 8) dd_Md_delivered_5 rfl (by decide) (fun hc1 => ?_) (fun hc1 => ?_)
  · skip
    replace hc1 := zb_0.mp hc1
    refine zx_iconst (-1) (q := 18) dd_Md_delivered_17 rfl (by decide) ?_
    exact zx_iret dd_Md_delivered_18 rfl (hq _ (by first | (simp [pm_delivered, he8, hc1]; done) | (clear hq; simp_all [pm_delivered]; done)))
  · skip
    replace hc1 := zb_n0.mp hc1
    subst hc1
    obtain ⟨f, hf, rfl⟩ := pm_on_n he8
    refine zx_aload_n (q := 9) dd_Md_delivered_8 rfl rfl ?_
    refine zx_get (q := 12) dd_Md_delivered_9 rfl fl_Md_96 at_m rfl ?_
    refine zx_iload_n (q := 13) dd_Md_delivered_12 rfl rfl ?_
    refine zx_iald (q := 14) dd_Md_delivered_13 rfl at_m28 rfl (by omega) (by decide) ?_
    refine zx_goto 18 dd_Md_delivered_14 (by decide) ?_
    exact zx_iret dd_Md_delivered_18 rfl (hq _ (by first | (simp [pm_delivered, he8, pa_cl hf]; done) | (clear hq; simp_all [pm_delivered]; done)))
set_option maxRecDepth 100000 in
set_option maxHeartbeats 4000000 in
theorem ok_Md_message {E : zxE} {b n : Nat} {B : zB} {F : Nat → zFn} {D : zMd} {Q : Option Value → zxH → Nat → Prop} {x y : Int32} (hq : ∀ r, pm_message D.2.2.2.1 x y = r → Q (some (.int r)) (zs b (B, F, D)) n) : zx_Ok E my_Md_message mi_Md_message [.ref (b + 71), .int x, .int y] (zs b (B, F, D)) n Q := by
  obtain ⟨t, fr, lo, I, J⟩ := D
  refine zx_start [some (.ref (b + 71)), some (.int x), some (.int y)] (by decide) rfl rfl (Nat.le_of_ble_eq_true rfl) rfl ?_
  refine zx_aload_n (q := 1) dd_Md_message_0 rfl rfl ?_
  refine zx_iload_n (q := 2) dd_Md_message_1 rfl rfl ?_
  refine zx_cV1i (q := 5) dd_Md_message_2 rfl cv_Md_message_156 ⟨rfl, rfl⟩ at_m rfl rfl (Nat.le_of_ble_eq_true rfl) ⟨Nat.zero_le _, Nat.zero_le _⟩ (ok_Md_on fun r9 he9 => ⟨_, rfl, ?_⟩)
  refine zx_if_eq 39 (q := 8) dd_Md_message_5 rfl (by decide) (fun hc1 => ?_) (fun hc1 => ?_)
  · skip
    replace hc1 := zb_0.mp hc1
    refine zx_iconst (-1) (q := 40) dd_Md_message_39 rfl (by decide) ?_
    exact zx_iret dd_Md_message_40 rfl (hq _ (by first | (simp [pm_message, he9, hc1]; done) | (clear hq; simp_all [pm_message]; done)))
  · skip
    replace hc1 := zb_n0.mp hc1
    subst hc1
    obtain ⟨f, hf, rfl⟩ := pm_on_n he9
    refine zx_aload_n (q := 9) dd_Md_message_8 rfl rfl ?_
    refine zx_get (q := 12) dd_Md_message_9 rfl fl_Md_96 at_m rfl ?_
    refine zx_iload_n (q := 13) dd_Md_message_12 rfl rfl ?_
    refine zx_iald (q := 14) dd_Md_message_13 rfl at_m28 rfl (by omega) (by decide) ?_
    refine zx_if_le 39 (q := 17) dd_Md_message_14 rfl (by decide) (fun hc2 => ?_) (fun hc2 => ?_)
    · skip
      refine zx_iconst (-1) (q := 40) dd_Md_message_39 rfl (by decide) ?_
      exact zx_iret dd_Md_message_40 rfl (hq _ (by first | (simp [pm_message, he9, pa_cl hf, hc2]; done) | (clear hq; simp_all [pm_message]; done)))
    · skip
      refine zx_iload_n (q := 18) dd_Md_message_17 rfl rfl ?_
      refine zx_if_lt 39 (q := 21) dd_Md_message_18 rfl (by decide) (fun hc3 => ?_) (fun hc3 => ?_)
      · skip
        refine zx_iconst (-1) (q := 40) dd_Md_message_39 rfl (by decide) ?_
        exact zx_iret dd_Md_message_40 rfl (hq _ (by first | (simp [pm_message, he9, pa_cl hf, hc2, hc3]; done) | (clear hq; simp_all [pm_message]; done)))
      · skip
        refine zx_iload_n (q := 22) dd_Md_message_21 rfl rfl ?_
        refine zx_iconst (nI 3) (q := 23) dd_Md_message_22 rfl (by decide) ?_
        refine zx_icmp_gt 39 (q := 26) dd_Md_message_23 rfl (by decide) (fun hc4 => ?_) (fun hc4 => ?_)
        · skip
          refine zx_iconst (-1) (q := 40) dd_Md_message_39 rfl (by decide) ?_
          exact zx_iret dd_Md_message_40 rfl (hq _ (by first | (simp [pm_message, he9, pa_cl hf, hc2, hc3, hc4]; done) | (clear hq; simp_all [pm_message]; done)))
        · skip
          obtain ⟨g, hg, rfl⟩ := pm_in3 hc3 hc4
          refine zx_aload_n (q := 27) dd_Md_message_26 rfl rfl ?_
          refine zx_get (q := 30) dd_Md_message_27 rfl fl_Md_99 at_m rfl ?_
          refine zx_iconst (nI 4) (q := 31) dd_Md_message_30 rfl (by decide) ?_
          refine zx_iload_n (q := 32) dd_Md_message_31 rfl rfl ?_
          refine zx_imul (q := 33) dd_Md_message_32 rfl ?_
          refine zx_topi (pk_mul _ _) ?_
          refine zx_iload_n (q := 34) dd_Md_message_33 rfl rfl ?_
          refine zx_iadd (q := 35) dd_Md_message_34 rfl ?_
          refine zx_topi (nI_add _ _) ?_
          refine zx_iald (q := 36) dd_Md_message_35 rfl at_m29 rfl (by omega) (by decide) ?_
          refine zx_goto 40 dd_Md_message_36 (by decide) ?_
          exact zx_iret dd_Md_message_40 rfl (hq _ (by first | (simp [pm_message, he9, pa_cl hf, hc2, hc3, hc4, pm_cl4 hg]; done) | (clear hq; simp_all [pm_message]; done)))
set_option maxRecDepth 100000 in
set_option maxHeartbeats 4000000 in
theorem ok_Md_byteOf {E : zxE} {b n : Nat} {B : zB} {F : Nat → zFn} {D : zMd} {Q : Option Value → zxH → Nat → Prop} {x y : Int32} (hlen : ∀ f < 5, ∀ g : Nat, g < 2 ^ 31 → ¬ D.2.2.2.1 29 (4 * f + 2) ≤ nI g → g < 49) (hq : ∀ r, pm_byteOf D.2.2.2.1 x y = r → Q (some (.int r)) (zs b (B, F, D)) n) : zx_Ok E my_Md_byteOf mi_Md_byteOf [.ref (b + 71), .int x, .int y] (zs b (B, F, D)) n Q := by
  obtain ⟨t, fr, lo, I, J⟩ := D
  have hlen : ∀ f < 5, ∀ g : Nat, g < 2 ^ 31 → ¬ I 29 (4 * f + 2) ≤ nI g → g < 49 := hlen
  refine zx_start [some (.ref (b + 71)), some (.int x), some (.int y)] (by decide) rfl rfl (Nat.le_of_ble_eq_true rfl) rfl ?_
  refine zx_aload_n (q := 1) dd_Md_byteOf_0 rfl rfl ?_
  refine zx_iload_n (q := 2) dd_Md_byteOf_1 rfl rfl ?_
  refine zx_cV1i (q := 5) dd_Md_byteOf_2 rfl cv_Md_byteOf_156 ⟨rfl, rfl⟩ at_m rfl rfl (Nat.le_of_ble_eq_true rfl) ⟨Nat.zero_le _, Nat.zero_le _⟩ (ok_Md_on fun r10 he10 => ⟨_, rfl, ?_⟩)
  refine zx_if_eq 49 (q := 8) dd_Md_byteOf_5 rfl (by decide) (fun hc1 => ?_) (fun hc1 => ?_)
  · skip
    replace hc1 := zb_0.mp hc1
    refine zx_iconst (-1) (q := 50) dd_Md_byteOf_49 rfl (by decide) ?_
    exact zx_iret dd_Md_byteOf_50 rfl (hq _ (by first | (simp [pm_byteOf, he10, hc1]; done) | (clear hq; simp_all [pm_byteOf]; done)))
  · skip
    replace hc1 := zb_n0.mp hc1
    subst hc1
    obtain ⟨f, hf, rfl⟩ := pm_on_n he10
    refine zx_aload_n (q := 9) dd_Md_byteOf_8 rfl rfl ?_
    refine zx_get (q := 12) dd_Md_byteOf_9 rfl fl_Md_96 at_m rfl ?_
    refine zx_iload_n (q := 13) dd_Md_byteOf_12 rfl rfl ?_
    refine zx_iald (q := 14) dd_Md_byteOf_13 rfl at_m28 rfl (by omega) (by decide) ?_
    refine zx_if_le 49 (q := 17) dd_Md_byteOf_14 rfl (by decide) (fun hc2 => ?_) (fun hc2 => ?_)
    · skip
      refine zx_iconst (-1) (q := 50) dd_Md_byteOf_49 rfl (by decide) ?_
      exact zx_iret dd_Md_byteOf_50 rfl (hq _ (by first | (simp [pm_byteOf, he10, pa_cl hf, hc2]; done) | (clear hq; simp_all [pm_byteOf]; done)))
    · skip
      refine zx_iload_n (q := 18) dd_Md_byteOf_17 rfl rfl ?_
      refine zx_if_lt 49 (q := 21) dd_Md_byteOf_18 rfl (by decide) (fun hc3 => ?_) (fun hc3 => ?_)
      · skip
        refine zx_iconst (-1) (q := 50) dd_Md_byteOf_49 rfl (by decide) ?_
        exact zx_iret dd_Md_byteOf_50 rfl (hq _ (by first | (simp [pm_byteOf, he10, pa_cl hf, hc2, hc3]; done) | (clear hq; simp_all [pm_byteOf]; done)))
      · skip
        obtain ⟨g, hg, rfl⟩ := nI_of hc3
        refine zx_iload_n (q := 22) dd_Md_byteOf_21 rfl rfl ?_
        refine zx_aload_n (q := 23) dd_Md_byteOf_22 rfl rfl ?_
        refine zx_get (q := 26) dd_Md_byteOf_23 rfl fl_Md_99 at_m rfl ?_
        refine zx_iconst (nI 4) (q := 27) dd_Md_byteOf_26 rfl (by decide) ?_
        refine zx_iload_n (q := 28) dd_Md_byteOf_27 rfl rfl ?_
        refine zx_imul (q := 29) dd_Md_byteOf_28 rfl ?_
        refine zx_topi (pk_mul _ _) ?_
        refine zx_iconst (nI 2) (q := 30) dd_Md_byteOf_29 rfl (by decide) ?_
        refine zx_iadd (q := 31) dd_Md_byteOf_30 rfl ?_
        refine zx_topi (nI_add _ _) ?_
        refine zx_iald (q := 32) dd_Md_byteOf_31 rfl at_m29 rfl (by omega) (by decide) ?_
        refine zx_icmp_ge 49 (q := 35) dd_Md_byteOf_32 rfl (by decide) (fun hc4 => ?_) (fun hc4 => ?_)
        · skip
          refine zx_iconst (-1) (q := 50) dd_Md_byteOf_49 rfl (by decide) ?_
          exact zx_iret dd_Md_byteOf_50 rfl (hq _ (by first | (simp [pm_byteOf, he10, pa_cl hf, hc2, hc3, nI_clamp hg, hc4]; done) | (clear hq; simp_all [pm_byteOf]; done)))
        · skip
          have hg49 : g < 49 := hlen f hf g hg hc4
          refine zx_aload_n (q := 36) dd_Md_byteOf_35 rfl rfl ?_
          refine zx_get (q := 39) dd_Md_byteOf_36 rfl fl_Md_102 at_m rfl ?_
          refine zx_bipush (nI 49) (q := 41) dd_Md_byteOf_39 rfl (by decide) ?_
          refine zx_iload_n (q := 42) dd_Md_byteOf_41 rfl rfl ?_
          refine zx_imul (q := 43) dd_Md_byteOf_42 rfl ?_
          refine zx_topi (pk_mul _ _) ?_
          refine zx_iload_n (q := 44) dd_Md_byteOf_43 rfl rfl ?_
          refine zx_iadd (q := 45) dd_Md_byteOf_44 rfl ?_
          refine zx_topi (nI_add _ _) ?_
          refine zx_iald (q := 46) dd_Md_byteOf_45 rfl at_m30 rfl (by omega) (by decide) ?_
          refine zx_goto 50 dd_Md_byteOf_46 (by decide) ?_
          exact zx_iret dd_Md_byteOf_50 rfl (hq _ (by first | (simp [pm_byteOf, he10, pa_cl hf, hc2, hc3, nI_clamp hg, hc4]; done) | (clear hq; simp_all [pm_byteOf]; done)))
set_option maxRecDepth 100000 in
set_option maxHeartbeats 4000000 in
theorem ok_Md_waiting {E : zxE} {b n : Nat} {B : zB} {F : Nat → zFn} {D : zMd} {Q : Option Value → zxH → Nat → Prop} (hq : Q (some (.int (nI D.2.1))) (zs b (B, F, D)) n) : zx_Ok E my_Md_waiting mi_Md_waiting [.ref (b + 71)] (zs b (B, F, D)) n Q := by
  obtain ⟨t, fr, lo, I, J⟩ := D
  refine zx_start [some (.ref (b + 71))] (by decide) rfl rfl (Nat.le_of_ble_eq_true rfl) rfl ?_
  refine zx_aload_n (q := 1) dd_Md_waiting_0 rfl rfl ?_
  refine zx_get (q := 4) dd_Md_waiting_1 rfl fl_Md_105 at_m rfl ?_
  exact zx_iret dd_Md_waiting_4 rfl hq
set_option maxRecDepth 100000 in
set_option maxHeartbeats 4000000 in
theorem ok_Md_overflowed {E : zxE} {b n : Nat} {B : zB} {F : Nat → zFn} {D : zMd} {Q : Option Value → zxH → Nat → Prop} (hq : Q (some (.int D.2.2.1)) (zs b (B, F, D)) n) : zx_Ok E my_Md_overflowed mi_Md_overflowed [.ref (b + 71)] (zs b (B, F, D)) n Q := by
  obtain ⟨t, fr, lo, I, J⟩ := D
  refine zx_start [some (.ref (b + 71))] (by decide) rfl rfl (Nat.le_of_ble_eq_true rfl) rfl ?_
  refine zx_aload_n (q := 1) dd_Md_overflowed_0 rfl rfl ?_
  refine zx_get (q := 4) dd_Md_overflowed_1 rfl fl_Md_109 at_m rfl ?_
  exact zx_iret dd_Md_overflowed_4 rfl hq
set_option maxRecDepth 100000 in
set_option maxHeartbeats 4000000 in
theorem ok_Md_identifier {E : zxE} {b n : Nat} {B : zB} {F : Nat → zFn} {D : zMd} {Q : Option Value → zxH → Nat → Prop} (hw : D.2.1 ≤ 48) (hq : ∀ r, pm_identifier D = r → Q (some (.int r)) (zs b (B, F, D)) n) : zx_Ok E my_Md_identifier mi_Md_identifier [.ref (b + 71)] (zs b (B, F, D)) n Q := by
  obtain ⟨t, fr, lo, I, J⟩ := D
  have hfr : fr ≤ 48 := hw
  refine zx_start [some (.ref (b + 71)), none] (by decide) rfl rfl (Nat.le_of_ble_eq_true rfl) rfl ?_
  refine zx_aload_n (q := 1) dd_Md_identifier_0 rfl rfl ?_
  refine zx_cV0i (q := 4) dd_Md_identifier_1 rfl cv_Md_identifier_128 ⟨rfl, rfl⟩ at_m rfl rfl (Nat.le_of_ble_eq_true rfl) ⟨Nat.zero_le _, Nat.zero_le _⟩ (ok_Md_next hw ⟨_, rfl, ?_⟩)
  refine zx_istore_1 (q := 5) dd_Md_identifier_4 rfl (by decide) rfl ?_
  refine zx_iload_n (q := 6) dd_Md_identifier_5 rfl rfl ?_
  refine zx_if_ge 13 (q := 9) dd_Md_identifier_6 rfl (by decide) (fun hc1 => ?_) (fun hc1 => ?_)
  · skip
    replace hc1 := (pc_next_ge hfr).mp hc1
    have hlt : pc_least (I 6) (fr - 1) < fr := by have := pc_least_le (I 6) (fr - 1); omega
    rw [show pc_next (I 6) fr = nI (pc_least (I 6) (fr - 1)) from if_neg hc1]
    refine zx_aload_n (q := 14) dd_Md_identifier_13 rfl rfl ?_
    refine zx_get (q := 17) dd_Md_identifier_14 rfl fl_Md_30 at_m rfl ?_
    refine zx_iload_n (q := 18) dd_Md_identifier_17 rfl rfl ?_
    refine zx_iald (q := 19) dd_Md_identifier_18 rfl at_m6 rfl (by omega) (by decide) ?_
    exact zx_iret dd_Md_identifier_19 rfl (hq _ (by first | (simp [pm_identifier, hc1]; done) | (clear hq; simp_all [pm_identifier]; done)))
  · skip
    replace hc1 : fr = 0 := Decidable.byContradiction fun z => hc1 ((pc_next_ge hfr).mpr z)
    refine zx_iconst (-1) (q := 10) dd_Md_identifier_9 rfl (by decide) ?_
    refine zx_goto 19 dd_Md_identifier_10 (by decide) ?_
    exact zx_iret dd_Md_identifier_19 rfl (hq _ (by first | (simp [pm_identifier, hc1]; done) | (clear hq; simp_all [pm_identifier]; done)))
set_option maxRecDepth 100000 in
set_option maxHeartbeats 4000000 in
theorem ok_Md_data {E : zxE} {b n : Nat} {B : zB} {F : Nat → zFn} {D : zMd} {Q : Option Value → zxH → Nat → Prop} (hw : D.2.1 ≤ 48) (hq : ∀ r, pm_data D = r → Q (some (.long r)) (zs b (B, F, D)) n) : zx_Ok E my_Md_data mi_Md_data [.ref (b + 71)] (zs b (B, F, D)) n Q := by
  obtain ⟨t, fr, lo, I, J⟩ := D
  have hfr : fr ≤ 48 := hw
  refine zx_start [some (.ref (b + 71)), none] (by decide) rfl rfl (Nat.le_of_ble_eq_true rfl) rfl ?_
  refine zx_aload_n (q := 1) dd_Md_data_0 rfl rfl ?_
  refine zx_cV0i (q := 4) dd_Md_data_1 rfl cv_Md_data_128 ⟨rfl, rfl⟩ at_m rfl rfl (Nat.le_of_ble_eq_true rfl) ⟨Nat.zero_le _, Nat.zero_le _⟩ (ok_Md_next hw ⟨_, rfl, ?_⟩)
  refine zx_istore_1 (q := 5) dd_Md_data_4 rfl (by decide) rfl ?_
  refine zx_iload_n (q := 6) dd_Md_data_5 rfl rfl ?_
  refine zx_if_ge 13 (q := 9) dd_Md_data_6 rfl (by decide) (fun hc1 => ?_) (fun hc1 => ?_)
  · skip
    replace hc1 := (pc_next_ge hfr).mp hc1
    have hlt : pc_least (I 6) (fr - 1) < fr := by have := pc_least_le (I 6) (fr - 1); omega
    rw [show pc_next (I 6) fr = nI (pc_least (I 6) (fr - 1)) from if_neg hc1]
    refine zx_aload_n (q := 14) dd_Md_data_13 rfl rfl ?_
    refine zx_get (q := 17) dd_Md_data_14 rfl fl_Md_33 at_m rfl ?_
    refine zx_iload_n (q := 18) dd_Md_data_17 rfl rfl ?_
    refine zx_lald (q := 19) dd_Md_data_18 rfl at_m7 rfl (by omega) (by decide) ?_
    exact zx_lret dd_Md_data_19 rfl (hq _ (by first | (simp [pm_data, hc1]; done) | (clear hq; simp_all [pm_data]; done)))
  · skip
    replace hc1 : fr = 0 := Decidable.byContradiction fun z => hc1 ((pc_next_ge hfr).mpr z)
    refine zx_lconst (lN 0) (q := 10) dd_Md_data_9 rfl (by decide) ?_
    refine zx_goto 19 dd_Md_data_10 (by decide) ?_
    exact zx_lret dd_Md_data_19 rfl (hq _ (by first | (simp [pm_data, hc1]; done) | (clear hq; simp_all [pm_data]; done)))
set_option maxRecDepth 100000 in
set_option maxHeartbeats 4000000 in
theorem ok_Md_lose {E : zxE} {b n : Nat} {B : zB} {F : Nat → zFn} {D : zMd} {Q : Option Value → zxH → Nat → Prop} (hw : D.2.1 ≤ 48) (hq : ∀ r D', pm_lose D = (r, D') → Q (some (.int (zb r))) (zs b (B, F, D')) n) : zx_Ok E my_Md_lose mi_Md_lose [.ref (b + 71)] (zs b (B, F, D)) n Q := by
  obtain ⟨t, fr, lo, I, J⟩ := D
  have hfr : fr ≤ 48 := hw
  refine zx_start [some (.ref (b + 71)), none] (by decide) rfl rfl (Nat.le_of_ble_eq_true rfl) rfl ?_
  refine zx_aload_n (q := 1) dd_Md_lose_0 rfl rfl ?_
  refine zx_cV0i (q := 4) dd_Md_lose_1 rfl cv_Md_lose_128 ⟨rfl, rfl⟩ at_m rfl rfl (Nat.le_of_ble_eq_true rfl) ⟨Nat.zero_le _, Nat.zero_le _⟩ (ok_Md_next hw ⟨_, rfl, ?_⟩)
  refine zx_istore_1 (q := 5) dd_Md_lose_4 rfl (by decide) rfl ?_
  refine zx_iload_n (q := 6) dd_Md_lose_5 rfl rfl ?_
  refine zx_if_lt 14 (q := 9) dd_Md_lose_6 rfl (by decide) (fun hc1 => ?_) (fun hc1 => ?_)
  · skip
    replace hc1 : fr = 0 := Decidable.byContradiction fun z => absurd ((pc_next_ge (ids := I 6) hfr).mpr z) (Int32.not_le.mpr hc1)
    refine zx_iload_n (q := 15) dd_Md_lose_14 rfl rfl ?_
    refine zx_if_lt 22 (q := 18) dd_Md_lose_15 rfl (by decide) (fun hc2 => ?_) (fun hc2 => absurd (Int32.not_le.mp (fun z => absurd ((pc_next_ge (ids := I 6) hfr).mp z) (by simp [hc1]))) hc2)
    refine zx_iconst (nI 0) (q := 23) dd_Md_lose_22 rfl (by decide) ?_
    exact zx_zret dd_Md_lose_23 rfl (by decide) (by rw [zb_f]; exact hq _ _ (by first | (simp [pm_lose, hc1]; done) | (clear hq; simp_all [pm_lose]; done)))
  · skip
    replace hc1 : ¬ fr = 0 := (pc_next_ge (ids := I 6) hfr).mp (Int32.not_lt.mp hc1)
    have hlt : pc_least (I 6) (fr - 1) < fr := by have := pc_least_le (I 6) (fr - 1); omega
    rw [show pc_next (I 6) fr = nI (pc_least (I 6) (fr - 1)) from if_neg hc1]
    refine zx_aload_n (q := 10) dd_Md_lose_9 rfl rfl ?_
    refine zx_iload_n (q := 11) dd_Md_lose_10 rfl rfl ?_
    refine zx_cV1v (q := 14) dd_Md_lose_11 rfl cv_Md_lose_132 ⟨rfl, rfl⟩ at_m rfl rfl (Nat.le_of_ble_eq_true rfl) ⟨Nat.zero_le _, Nat.zero_le _⟩ (ok_Md_takeAway hw hlt ⟨rfl, ?_⟩)
    refine zx_iload_n (q := 15) dd_Md_lose_14 rfl rfl ?_
    refine zx_if_lt 22 (q := 18) dd_Md_lose_15 rfl (by decide) (fun hc3 => absurd hc3 (nI_pos (by omega))) (fun hc3 => ?_)
    refine zx_iconst (nI 1) (q := 19) dd_Md_lose_18 rfl (by decide) ?_
    refine zx_goto 23 dd_Md_lose_19 (by decide) ?_
    exact zx_zret dd_Md_lose_23 rfl (by decide) (by rw [zb_1]; exact hq _ _ (by first | (simp [pm_lose, hc1]; done) | (clear hq; simp_all [pm_lose]; done)))
