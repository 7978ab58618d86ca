set_option maxRecDepth 100000 in
set_option maxHeartbeats 4000000 in
theorem ok_Ab_isFunction {E : zxE} {b n : Nat} {H : Nat → zG} {D : zMd} {B : zB} {Q : Option Value → zxH → Nat → Prop} {x : Int32} (hq : ∀ r, pa_isF x = r → Q (some (.int (zb r))) (zs b (B, hF H, D)) n) : zx_Ok E my_Ab_isFunction mi_Ab_isFunction [.ref b, .int x] (zs b (B, hF H, D)) n Q := by
  refine zx_start [some (.ref b), some (.int x)] (by decide) rfl rfl (Nat.le_of_ble_eq_true rfl) rfl ?_
  refine zx_iload_n (q := 1) dd_Ab_isFunction_0 rfl rfl ?_
  refine zx_if_lt 13 (q := 4) dd_Ab_isFunction_1 rfl (by decide) (fun hc1 => ?_) (fun hc1 => ?_)
  · skip
    refine zx_iconst (nI 0) (q := 14) dd_Ab_isFunction_13 rfl (by decide) ?_
    exact zx_zret dd_Ab_isFunction_14 rfl (by decide) (by rw [zb_f]; exact hq _ (by first | (simp [pa_isF, hc1]; done) | (clear hq; simp_all [pa_isF]; done)))
  · skip
    refine zx_iload_n (q := 5) dd_Ab_isFunction_4 rfl rfl ?_
    refine zx_iconst (nI 5) (q := 6) dd_Ab_isFunction_5 rfl (by decide) ?_
    refine zx_icmp_ge 13 (q := 9) dd_Ab_isFunction_6 rfl (by decide) (fun hc2 => ?_) (fun hc2 => ?_)
    · skip
      refine zx_iconst (nI 0) (q := 14) dd_Ab_isFunction_13 rfl (by decide) ?_
      exact zx_zret dd_Ab_isFunction_14 rfl (by decide) (by rw [zb_f]; exact hq _ (by first | (simp [pa_isF, hc1, hc2]; done) | (clear hq; simp_all [pa_isF]; done)))
    · skip
      refine zx_iconst (nI 1) (q := 10) dd_Ab_isFunction_9 rfl (by decide) ?_
      refine zx_goto 14 dd_Ab_isFunction_10 (by decide) ?_
      exact zx_zret dd_Ab_isFunction_14 rfl (by decide) (by rw [zb_1]; exact hq _ (by first | (simp [pa_isF, hc1, hc2]; done) | (clear hq; simp_all [pa_isF]; done)))
set_option maxRecDepth 100000 in
set_option maxHeartbeats 4000000 in
theorem ok_Ab_isOn {E : zxE} {b n : Nat} {H : Nat → zG} {D : zMd} {B : zB} {Q : Option Value → zxH → Nat → Prop} {x : Int32} (hq : ∀ r, pa_isOn H x = r → Q (some (.int (zb r))) (zs b (B, hF H, D)) n) : zx_Ok E my_Ab_isOn mi_Ab_isOn [.ref b, .int x] (zs b (B, hF H, D)) n Q := by
  refine zx_start [some (.ref b), some (.int x)] (by decide) rfl rfl (Nat.le_of_ble_eq_true rfl) rfl ?_
  refine zx_aload_n (q := 1) dd_Ab_isOn_0 rfl rfl ?_
  refine zx_iload_n (q := 2) dd_Ab_isOn_1 rfl rfl ?_
  refine zx_cV1i (q := 5) dd_Ab_isOn_2 rfl cv_Ab_isOn_30 ⟨rfl, rfl⟩ at_ab rfl rfl (Nat.le_of_ble_eq_true rfl) ⟨Nat.zero_le _, Nat.zero_le _⟩ (ok_Ab_isFunction fun r1 he1 => ⟨_, rfl, ?_⟩)
  refine zx_if_eq 24 (q := 8) dd_Ab_isOn_5 rfl (by decide) (fun hc1 => ?_) (fun hc1 => ?_)
  · skip
    replace hc1 := zb_0.mp hc1
    refine zx_iconst (nI 0) (q := 25) dd_Ab_isOn_24 rfl (by decide) ?_
    exact zx_zret dd_Ab_isOn_25 rfl (by decide) (by rw [zb_f]; exact hq _ (by first | (simp [pa_isOn, he1, hc1]; done) | (clear hq; simp_all [pa_isOn]; done)))
  · skip
    replace hc1 := zb_n0.mp hc1
    subst hc1
    obtain ⟨f, hf, rfl⟩ := pa_isF_n he1
    refine zx_aload_n (q := 9) dd_Ab_isOn_8 rfl rfl ?_
    refine zx_get (q := 12) dd_Ab_isOn_9 rfl fl_Ab_18 at_ab rfl ?_
    refine zx_iload_n (q := 13) dd_Ab_isOn_12 rfl rfl ?_
    refine zx_aald (q := 14) dd_Ab_isOn_13 rfl (fun _ => rfl) at_b5 rfl (by omega) (by decide) (fns_at (by omega)) ?_
    refine zx_get (q := 17) dd_Ab_isOn_14 rfl fl_Ab_56 (ah_f0 hf) rfl ?_
    refine zx_if_eq 24 (q := 20) dd_Ab_isOn_17 rfl (by decide) (fun hc2 => ?_) (fun hc2 => ?_)
    · skip
      refine zx_iconst (nI 0) (q := 25) dd_Ab_isOn_24 rfl (by decide) ?_
      exact zx_zret dd_Ab_isOn_25 rfl (by decide) (by rw [zb_f]; exact hq _ (by first | (simp [pa_isOn, he1, pa_cl hf, eq_true hc2]; done) | (clear hq; simp_all [pa_isOn]; done)))
    · skip
      refine zx_iconst (nI 1) (q := 21) dd_Ab_isOn_20 rfl (by decide) ?_
      refine zx_goto 25 dd_Ab_isOn_21 (by decide) ?_
      exact zx_zret dd_Ab_isOn_25 rfl (by decide) (by rw [zb_1]; exact hq _ (by first | (simp [pa_isOn, he1, pa_cl hf, hc2]; done) | (clear hq; simp_all [pa_isOn]; done)))
set_option maxRecDepth 100000 in
set_option maxHeartbeats 4000000 in
theorem ok_Ab_hasMessage {E : zxE} {b n : Nat} {H : Nat → zG} {D : zMd} {B : zB} {Q : Option Value → zxH → Nat → Prop} {x : Int32} (hq : ∀ r, pa_has H x = r → Q (some (.int (zb r))) (zs b (B, hF H, D)) n) : zx_Ok E my_Ab_hasMessage mi_Ab_hasMessage [.ref b, .int x] (zs b (B, hF H, D)) n Q := by
  refine zx_start [some (.ref b), some (.int x)] (by decide) rfl rfl (Nat.le_of_ble_eq_true rfl) rfl ?_
  refine zx_aload_n (q := 1) dd_Ab_hasMessage_0 rfl rfl ?_
  refine zx_iload_n (q := 2) dd_Ab_hasMessage_1 rfl rfl ?_
  refine zx_cV1i (q := 5) dd_Ab_hasMessage_2 rfl cv_Ab_hasMessage_34 ⟨rfl, rfl⟩ at_ab rfl rfl (Nat.le_of_ble_eq_true rfl) ⟨Nat.zero_le _, Nat.zero_le _⟩ (ok_Ab_isOn fun r2 he2 => ⟨_, rfl, ?_⟩)
  refine zx_if_eq 24 (q := 8) dd_Ab_hasMessage_5 rfl (by decide) (fun hc1 => ?_) (fun hc1 => ?_)
  · skip
    replace hc1 := zb_0.mp hc1
    refine zx_iconst (nI 0) (q := 25) dd_Ab_hasMessage_24 rfl (by decide) ?_
    exact zx_zret dd_Ab_hasMessage_25 rfl (by decide) (by rw [zb_f]; exact hq _ (by first | (simp [pa_has, he2, hc1]; done) | (clear hq; simp_all [pa_has]; done)))
  · skip
    replace hc1 := zb_n0.mp hc1
    subst hc1
    obtain ⟨f, hf, rfl⟩ := pa_isOn_n he2
    refine zx_aload_n (q := 9) dd_Ab_hasMessage_8 rfl rfl ?_
    refine zx_get (q := 12) dd_Ab_hasMessage_9 rfl fl_Ab_18 at_ab rfl ?_
    refine zx_iload_n (q := 13) dd_Ab_hasMessage_12 rfl rfl ?_
    refine zx_aald (q := 14) dd_Ab_hasMessage_13 rfl (fun _ => rfl) at_b5 rfl (by omega) (by decide) (fns_at (by omega)) ?_
    refine zx_get (q := 17) dd_Ab_hasMessage_14 rfl fl_Ab_138 (ah_f0 hf) rfl ?_
    refine zx_if_le 24 (q := 20) dd_Ab_hasMessage_17 rfl (by decide) (fun hc2 => ?_) (fun hc2 => ?_)
    · skip
      replace hc2 : ¬ 0 < (H f).2.2.2.2.2.2.2.2.1 := fun z => Int32.lt_irrefl (Int32.lt_of_lt_of_le z hc2)
      refine zx_iconst (nI 0) (q := 25) dd_Ab_hasMessage_24 rfl (by decide) ?_
      exact zx_zret dd_Ab_hasMessage_25 rfl (by decide) (by rw [zb_f]; exact hq _ (by first | (simp [pa_has, he2, pa_cl hf, hc2]; done) | (clear hq; simp_all [pa_has]; done)))
    · skip
      replace hc2 : 0 < (H f).2.2.2.2.2.2.2.2.1 := Int32.not_le.mp hc2
      refine zx_iconst (nI 1) (q := 21) dd_Ab_hasMessage_20 rfl (by decide) ?_
      refine zx_goto 25 dd_Ab_hasMessage_21 (by decide) ?_
      exact zx_zret dd_Ab_hasMessage_25 rfl (by decide) (by rw [zb_1]; exact hq _ (by first | (simp [pa_has, he2, pa_cl hf, hc2]; done) | (clear hq; simp_all [pa_has]; done)))
set_option maxRecDepth 100000 in
set_option maxHeartbeats 4000000 in
theorem lo_Ab_isNameTaken {E : zxE} {b n : Nat} {H : Nat → zG} {D : zMd} {B : zB} {Q : Option Value → zxH → Nat → Prop} {name : Int64} (hq : ∀ r, pa_tk H name 5 = r → Q (some (.int (zb r))) (zs b (B, hF H, D)) n) : ∀ k i : Nat, i + k = 5 → pa_tk H name i = false → zx_X E mi_Ab_isNameTaken (zx_Y E mi_Ab_isNameTaken Q) 2 [some (.ref b), some (.long name), none, some (.int (nI i))] [] (zs b (B, hF H, D)) n 0 0 := by
  intro k
  induction k with
  | zero =>
    intro i h2 hn
    have h3 : i = 5 := by omega
    subst h3
    refine zx_iload_n (q := 3) dd_Ab_isNameTaken_2 rfl rfl ?_
    refine zx_iconst (nI 5) (q := 4) dd_Ab_isNameTaken_3 rfl (by decide) ?_
    refine zx_icmp_ge 37 (q := 7) dd_Ab_isNameTaken_4 rfl (by decide) (fun hc1 => ?_) (fun hc1 => absurd (by decide) hc1)
    refine zx_iconst (nI 0) (q := 38) dd_Ab_isNameTaken_37 rfl (by decide) ?_
    exact zx_zret dd_Ab_isNameTaken_38 rfl (by decide) (by rw [zb_f]; exact hq _ hn)
  | succ k ih =>
    intro i h2 hn
    have hf : i < 5 := by omega
    have ih := ih (i + 1) (by omega)
    refine zx_iload_n (q := 3) dd_Ab_isNameTaken_2 rfl rfl ?_
    refine zx_iconst (nI 5) (q := 4) dd_Ab_isNameTaken_3 rfl (by decide) ?_
    refine zx_icmp_ge 37 (q := 7) dd_Ab_isNameTaken_4 rfl (by decide) (fun hc1 => absurd hc1 (fun z => absurd ((nI_leI (by decide) (by omega)).mp z) (by omega))) (fun hc1 => ?_)
    refine zx_aload_n (q := 8) dd_Ab_isNameTaken_7 rfl rfl ?_
    refine zx_iload_n (q := 9) dd_Ab_isNameTaken_8 rfl rfl ?_
    refine zx_cV1i (q := 12) dd_Ab_isNameTaken_9 rfl cv_Ab_isNameTaken_34 ⟨rfl, rfl⟩ at_ab rfl rfl (Nat.le_of_ble_eq_true rfl) ⟨Nat.zero_le _, Nat.zero_le _⟩ (ok_Ab_isOn fun r3 he3 => ⟨_, rfl, ?_⟩)
    refine zx_if_eq 31 (q := 15) dd_Ab_isNameTaken_12 rfl (by decide) (fun hc2 => ?_) (fun hc2 => ?_)
    · skip
      replace hc2 := zb_0.mp hc2
      refine zx_iincN_3 (q := 34) dd_Ab_isNameTaken_31 rfl (by decide) rfl ?_
      refine zx_goto 2 dd_Ab_isNameTaken_34 (by decide) ?_
      exact ih (by simp [pa_tk, hn, he3, hc2] <;> simp_all [pa_isOn, pa_isF_f hf, pa_cl hf])
    · skip
      replace hc2 := zb_n0.mp hc2
      refine zx_aload_n (q := 16) dd_Ab_isNameTaken_15 rfl rfl ?_
      refine zx_get (q := 19) dd_Ab_isNameTaken_16 rfl fl_Ab_18 at_ab rfl ?_
      refine zx_iload_n (q := 20) dd_Ab_isNameTaken_19 rfl rfl ?_
      refine zx_aald (q := 21) dd_Ab_isNameTaken_20 rfl (fun _ => rfl) at_b5 rfl (by omega) (by decide) (fns_at (by omega)) ?_
      refine zx_get (q := 24) dd_Ab_isNameTaken_21 rfl fl_Ab_166 (ah_f0 hf) rfl ?_
      refine zx_lload_n (q := 25) dd_Ab_isNameTaken_24 rfl rfl ?_
      refine zx_lcmp (q := 26) dd_Ab_isNameTaken_25 rfl ?_
      refine zx_if_ne 31 (q := 29) dd_Ab_isNameTaken_26 rfl (by decide) (fun hc3 => ?_) (fun hc3 => ?_)
      · skip
        replace hc3 := mt lcmp_0.mpr hc3
        refine zx_iincN_3 (q := 34) dd_Ab_isNameTaken_31 rfl (by decide) rfl ?_
        refine zx_goto 2 dd_Ab_isNameTaken_34 (by decide) ?_
        exact ih (by simp [pa_tk, hn, he3, hc2, hc3] <;> simp_all [pa_isOn, pa_isF_f hf, pa_cl hf])
      · skip
        replace hc3 := lcmp_0.mp hc3
        refine zx_iconst (nI 1) (q := 30) dd_Ab_isNameTaken_29 rfl (by decide) ?_
        exact zx_zret dd_Ab_isNameTaken_30 rfl (by decide) (by rw [zb_1]; exact hq _ (by have z : pa_tk H name (i + 1) = true := (by simp [pa_tk, he3, hc2, hc3] <;> simp_all [pa_isOn, pa_isF_f hf, pa_cl hf]); have z2 := pa_tk_up z k; rwa [show i + 1 + k = 5 by omega] at z2))
set_option maxRecDepth 100000 in
set_option maxHeartbeats 4000000 in
theorem ok_Ab_isNameTaken {E : zxE} {b n : Nat} {H : Nat → zG} {D : zMd} {B : zB} {Q : Option Value → zxH → Nat → Prop} {name : Int64} (hq : ∀ r, pa_tk H name 5 = r → Q (some (.int (zb r))) (zs b (B, hF H, D)) n) : zx_Ok E my_Ab_isNameTaken mi_Ab_isNameTaken [.ref b, .long name] (zs b (B, hF H, D)) n Q := by
  refine zx_start [some (.ref b), some (.long name), none, none] (by decide) rfl rfl (Nat.le_of_ble_eq_true rfl) rfl ?_
  refine zx_iconst (nI 0) (q := 1) dd_Ab_isNameTaken_0 rfl (by decide) ?_
  refine zx_istore_3 (q := 2) dd_Ab_isNameTaken_1 rfl (by decide) rfl ?_
  exact lo_Ab_isNameTaken hq 5 0 (by omega) rfl
set_option maxRecDepth 100000 in
set_option maxHeartbeats 4000000 in
theorem ok_Ab_start {E : zxE} {b n : Nat} {H : Nat → zG} {D : zMd} {B : zB} {Q : Option Value → zxH → Nat → Prop} {x a : Int32} {name : Int64} (hw : B.2.2.2.1 ≤ 48) (hq : ∀ r B' H', pa_start B H x name a = (r, B', H') → Q (some (.int (zb r))) (zs b (B', hF H', D)) n) : zx_Ok E my_Ab_start mi_Ab_start [.ref b, .int x, .long name, .int a] (zs b (B, hF H, D)) n Q := by
  refine zx_start [some (.ref b), some (.int x), some (.long name), none, some (.int a)] (by decide) rfl rfl (Nat.le_of_ble_eq_true rfl) rfl ?_
  refine zx_aload_n (q := 1) dd_Ab_start_0 rfl rfl ?_
  refine zx_iload_n (q := 2) dd_Ab_start_1 rfl rfl ?_
  refine zx_cV1i (q := 5) dd_Ab_start_2 rfl cv_Ab_start_30 ⟨rfl, rfl⟩ at_ab rfl rfl (Nat.le_of_ble_eq_true rfl) ⟨Nat.zero_le _, Nat.zero_le _⟩ (ok_Ab_isFunction fun r4 he4 => ⟨_, rfl, ?_⟩)
  refine zx_if_eq 37 (q := 8) dd_Ab_start_5 rfl (by decide) (fun hc1 => ?_) (fun hc1 => ?_)
  · skip
    replace hc1 := zb_0.mp hc1
    refine zx_iconst (nI 0) (q := 38) dd_Ab_start_37 rfl (by decide) ?_
    exact zx_zret dd_Ab_start_38 rfl (by decide) (by rw [zb_f]; exact hq _ _ _ (by first | (simp [pa_start, he4, hc1]; done) | (clear hq; simp_all [pa_start]; done)))
  · skip
    replace hc1 := zb_n0.mp hc1
    subst hc1
    obtain ⟨f, hf, rfl⟩ := pa_isF_n he4
    refine zx_aload_n (q := 9) dd_Ab_start_8 rfl rfl ?_
    refine zx_iload_n (q := 10) dd_Ab_start_9 rfl rfl ?_
    refine zx_cV1i (q := 13) dd_Ab_start_10 rfl cv_Ab_start_34 ⟨rfl, rfl⟩ at_ab rfl rfl (Nat.le_of_ble_eq_true rfl) ⟨Nat.zero_le _, Nat.zero_le _⟩ (ok_Ab_isOn fun r5 he5 => ⟨_, rfl, ?_⟩)
    refine zx_if_ne 37 (q := 16) dd_Ab_start_13 rfl (by decide) (fun hc2 => ?_) (fun hc2 => ?_)
    · skip
      replace hc2 := zb_n0.mp hc2
      refine zx_iconst (nI 0) (q := 38) dd_Ab_start_37 rfl (by decide) ?_
      exact zx_zret dd_Ab_start_38 rfl (by decide) (by rw [zb_f]; exact hq _ _ _ (by first | (simp [pa_start, he4, pa_cl hf, he5, hc2]; done) | (clear hq; simp_all [pa_start]; done)))
    · skip
      replace hc2 := zb_0.mp hc2
      refine zx_iload (q := 18) dd_Ab_start_16 rfl rfl ?_
      refine zx_if_lt 37 (q := 21) dd_Ab_start_18 rfl (by decide) (fun hc3 => ?_) (fun hc3 => ?_)
      · skip
        refine zx_iconst (nI 0) (q := 38) dd_Ab_start_37 rfl (by decide) ?_
        exact zx_zret dd_Ab_start_38 rfl (by decide) (by rw [zb_f]; exact hq _ _ _ (by first | (simp [pa_start, he4, pa_cl hf, he5, hc2, hc3]; done) | (clear hq; simp_all [pa_start]; done)))
      · skip
        refine zx_iload (q := 23) dd_Ab_start_21 rfl rfl ?_
        refine zx_sipush (nI 253) (q := 26) dd_Ab_start_23 rfl (by decide) ?_
        refine zx_icmp_gt 37 (q := 29) dd_Ab_start_26 rfl (by decide) (fun hc4 => ?_) (fun hc4 => ?_)
        · skip
          refine zx_iconst (nI 0) (q := 38) dd_Ab_start_37 rfl (by decide) ?_
          exact zx_zret dd_Ab_start_38 rfl (by decide) (by rw [zb_f]; exact hq _ _ _ (by first | (simp [pa_start, he4, pa_cl hf, he5, hc2, hc3, hc4]; done) | (clear hq; simp_all [pa_start]; done)))
        · skip
          refine zx_aload_n (q := 30) dd_Ab_start_29 rfl rfl ?_
          refine zx_lload_n (q := 31) dd_Ab_start_30 rfl rfl ?_
          refine zx_cV1i (q := 34) dd_Ab_start_31 rfl cv_Ab_start_37 ⟨rfl, rfl⟩ at_ab rfl rfl (Nat.le_of_ble_eq_true rfl) ⟨Nat.zero_le _, Nat.zero_le _⟩ (ok_Ab_isNameTaken fun r6 he6 => ⟨_, rfl, ?_⟩)
          refine zx_if_eq 39 (q := 37) dd_Ab_start_34 rfl (by decide) (fun hc5 => ?_) (fun hc5 => ?_)
          · skip
            replace hc5 := zb_0.mp hc5
            refine zx_aload_n (q := 40) dd_Ab_start_39 rfl rfl ?_
            refine zx_get (q := 43) dd_Ab_start_40 rfl fl_Ab_18 at_ab rfl ?_
            refine zx_iload_n (q := 44) dd_Ab_start_43 rfl rfl ?_
            refine zx_aald (q := 45) dd_Ab_start_44 rfl (fun _ => rfl) at_b5 rfl (by omega) (by decide) (fns_at (by omega)) ?_
            refine zx_lload_n (q := 46) dd_Ab_start_45 rfl rfl ?_
            refine zx_iload (q := 48) dd_Ab_start_46 rfl rfl ?_
            refine zx_cV2v (q := 51) dd_Ab_start_48 rfl cv_Ab_start_41 ⟨rfl, rfl⟩ (ah_f0 hf) rfl rfl (Nat.le_of_ble_eq_true rfl) ⟨Nat.zero_le _, Nat.zero_le _⟩ (ah_on hf hw fun B7 G7 he7 hw7 => ⟨rfl, ?_⟩)
            refine zx_iconst (nI 1) (q := 52) dd_Ab_start_51 rfl (by decide) ?_
            exact zx_zret dd_Ab_start_52 rfl (by decide) (by rw [zb_1]; exact hq _ _ _ (by first | (simp [pa_start, he4, pa_cl hf, he5, hc2, hc3, hc4, he6, hc5, he7]; done) | (clear hq; simp_all [pa_start]; done)))
          · skip
            replace hc5 := zb_n0.mp hc5
            refine zx_iconst (nI 0) (q := 38) dd_Ab_start_37 rfl (by decide) ?_
            exact zx_zret dd_Ab_start_38 rfl (by decide) (by rw [zb_f]; exact hq _ _ _ (by first | (simp [pa_start, he4, pa_cl hf, he5, hc2, hc3, hc4, he6, hc5]; done) | (clear hq; simp_all [pa_start]; done)))
set_option maxRecDepth 100000 in
set_option maxHeartbeats 4000000 in
theorem ok_Ab_stop {E : zxE} {b n : Nat} {H : Nat → zG} {D : zMd} {B : zB} {Q : Option Value → zxH → Nat → Prop} {x : Int32} (hw : B.2.2.2.1 ≤ 48) (hI : ∀ g < 5, (H g).2.2.2.1 ≤ 1) (hq : ∀ r B' H', pa_stop B H x = (r, B', H') → Q (some (.int (zb r))) (zs b (B', hF H', D)) n) : zx_Ok E my_Ab_stop mi_Ab_stop [.ref b, .int x] (zs b (B, hF H, D)) n Q := by
  refine zx_start [some (.ref b), some (.int x)] (by decide) rfl rfl (Nat.le_of_ble_eq_true rfl) rfl ?_
  refine zx_aload_n (q := 1) dd_Ab_stop_0 rfl rfl ?_
  refine zx_iload_n (q := 2) dd_Ab_stop_1 rfl rfl ?_
  refine zx_cV1i (q := 5) dd_Ab_stop_2 rfl cv_Ab_stop_34 ⟨rfl, rfl⟩ at_ab rfl rfl (Nat.le_of_ble_eq_true rfl) ⟨Nat.zero_le _, Nat.zero_le _⟩ (ok_Ab_isOn fun r8 he8 => ⟨_, rfl, ?_⟩)
  refine zx_if_ne 10 (q := 8) dd_Ab_stop_5 rfl (by decide) (fun hc1 => ?_) (fun hc1 => ?_)
  · skip
    replace hc1 := zb_n0.mp hc1
    subst hc1
    obtain ⟨f, hf, rfl⟩ := pa_isOn_n he8
    refine zx_aload_n (q := 11) dd_Ab_stop_10 rfl rfl ?_
    refine zx_get (q := 14) dd_Ab_stop_11 rfl fl_Ab_18 at_ab rfl ?_
    refine zx_iload_n (q := 15) dd_Ab_stop_14 rfl rfl ?_
    refine zx_aald (q := 16) dd_Ab_stop_15 rfl (fun _ => rfl) at_b5 rfl (by omega) (by decide) (fns_at (by omega)) ?_
    refine zx_cV0v (q := 19) dd_Ab_stop_16 rfl cv_Ab_stop_45 ⟨rfl, rfl⟩ (ah_f0 hf) rfl rfl (Nat.le_of_ble_eq_true rfl) ⟨Nat.zero_le _, Nat.zero_le _⟩ (ah_off hf (hI f hf) hw fun B9 G9 he9 => ⟨rfl, ?_⟩)
    refine zx_iconst (nI 1) (q := 20) dd_Ab_stop_19 rfl (by decide) ?_
    exact zx_zret dd_Ab_stop_20 rfl (by decide) (by rw [zb_1]; exact hq _ _ _ (by first | (simp [pa_stop, he8, pa_cl hf, he9]; done) | (clear hq; simp_all [pa_stop]; done)))
  · skip
    replace hc1 := zb_0.mp hc1
    refine zx_iconst (nI 0) (q := 9) dd_Ab_stop_8 rfl (by decide) ?_
    exact zx_zret dd_Ab_stop_9 rfl (by decide) (by rw [zb_f]; exact hq _ _ _ (by first | (simp [pa_stop, he8, hc1]; done) | (clear hq; simp_all [pa_stop]; done)))
set_option maxRecDepth 100000 in
set_option maxHeartbeats 4000000 in
theorem ok_Ab_busy {E : zxE} {b n : Nat} {H : Nat → zG} {D : zMd} {B : zB} {Q : Option Value → zxH → Nat → Prop} {x : Int32} {y : Bool} (hq : ∀ r H', pa_busy H x y = (r, H') → Q (some (.int (zb r))) (zs b (B, hF H', D)) n) : zx_Ok E my_Ab_busy mi_Ab_busy [.ref b, .int x, .int (zb y)] (zs b (B, hF H, D)) n Q := by
  refine zx_start [some (.ref b), some (.int x), some (.int (zb y))] (by decide) rfl rfl (Nat.le_of_ble_eq_true rfl) rfl ?_
  refine zx_aload_n (q := 1) dd_Ab_busy_0 rfl rfl ?_
  refine zx_iload_n (q := 2) dd_Ab_busy_1 rfl rfl ?_
  refine zx_cV1i (q := 5) dd_Ab_busy_2 rfl cv_Ab_busy_30 ⟨rfl, rfl⟩ at_ab rfl rfl (Nat.le_of_ble_eq_true rfl) ⟨Nat.zero_le _, Nat.zero_le _⟩ (ok_Ab_isFunction fun r10 he10 => ⟨_, rfl, ?_⟩)
  refine zx_if_eq 24 (q := 8) dd_Ab_busy_5 rfl (by decide) (fun hc1 => ?_) (fun hc1 => ?_)
  · skip
    replace hc1 := zb_0.mp hc1
    refine zx_iconst (nI 0) (q := 25) dd_Ab_busy_24 rfl (by decide) ?_
    exact zx_zret dd_Ab_busy_25 rfl (by decide) (by rw [zb_f]; exact hq _ _ (by first | (simp [pa_busy, he10, hc1]; done) | (clear hq; simp_all [pa_busy]; done)))
  · skip
    replace hc1 := zb_n0.mp hc1
    subst hc1
    obtain ⟨f, hf, rfl⟩ := pa_isF_n he10
    refine zx_aload_n (q := 9) dd_Ab_busy_8 rfl rfl ?_
    refine zx_get (q := 12) dd_Ab_busy_9 rfl fl_Ab_18 at_ab rfl ?_
    refine zx_iload_n (q := 13) dd_Ab_busy_12 rfl rfl ?_
    refine zx_aald (q := 14) dd_Ab_busy_13 rfl (fun _ => rfl) at_b5 rfl (by omega) (by decide) (fns_at (by omega)) ?_
    refine zx_get (q := 17) dd_Ab_busy_14 rfl fl_Ab_48 (ah_f0 hf) rfl ?_
    refine zx_get (q := 20) dd_Ab_busy_17 rfl fl_Ab_52 (ah_f1 hf) rfl ?_
    refine zx_iload_n (q := 21) dd_Ab_busy_20 rfl rfl ?_
    refine zx_icmp_ne 26 (q := 24) dd_Ab_busy_21 rfl (by decide) (fun hc2 => ?_) (fun hc2 => ?_)
    · skip
      replace hc2 := eq_false (fun z => hc2 (zb_eq.mpr z))
      refine zx_aload_n (q := 27) dd_Ab_busy_26 rfl rfl ?_
      refine zx_get (q := 30) dd_Ab_busy_27 rfl fl_Ab_18 at_ab rfl ?_
      refine zx_iload_n (q := 31) dd_Ab_busy_30 rfl rfl ?_
      refine zx_aald (q := 32) dd_Ab_busy_31 rfl (fun _ => rfl) at_b5 rfl (by omega) (by decide) (fns_at (by omega)) ?_
      refine zx_get (q := 35) dd_Ab_busy_32 rfl fl_Ab_48 (ah_f0 hf) rfl ?_
      refine zx_iload_n (q := 36) dd_Ab_busy_35 rfl rfl ?_
      refine zx_put (q := 39) dd_Ab_busy_36 rfl fl_Ab_52 (ah_f1 hf) zb_nar zb_fit (Nat.le_of_ble_eq_true rfl) (uh_f1 hf) ?_
      refine zx_iconst (nI 1) (q := 40) dd_Ab_busy_39 rfl (by decide) ?_
      exact zx_zret dd_Ab_busy_40 rfl (by decide) (by rw [zb_1]; exact hq _ _ (by first | (simp [pa_busy, he10, pa_cl hf, hc2]; done) | (clear hq; simp_all [pa_busy]; done)))
    · skip
      replace hc2 := zb_eq.mp hc2
      refine zx_iconst (nI 0) (q := 25) dd_Ab_busy_24 rfl (by decide) ?_
      exact zx_zret dd_Ab_busy_25 rfl (by decide) (by rw [zb_f]; exact hq _ _ (by first | (simp [pa_busy, he10, pa_cl hf, hc2]; done) | (clear hq; simp_all [pa_busy]; done)))
set_option maxRecDepth 100000 in
set_option maxHeartbeats 4000000 in
theorem ok_Ab_state {E : zxE} {b n : Nat} {H : Nat → zG} {D : zMd} {B : zB} {Q : Option Value → zxH → Nat → Prop} {x : Int32} (hq : ∀ r, pa_state H x = r → Q (some (.int r)) (zs b (B, hF H, D)) n) : zx_Ok E my_Ab_state mi_Ab_state [.ref b, .int x] (zs b (B, hF H, D)) n Q := by
  refine zx_start [some (.ref b), some (.int x)] (by decide) rfl rfl (Nat.le_of_ble_eq_true rfl) rfl ?_
  refine zx_aload_n (q := 1) dd_Ab_state_0 rfl rfl ?_
  refine zx_iload_n (q := 2) dd_Ab_state_1 rfl rfl ?_
  refine zx_cV1i (q := 5) dd_Ab_state_2 rfl cv_Ab_state_30 ⟨rfl, rfl⟩ at_ab rfl rfl (Nat.le_of_ble_eq_true rfl) ⟨Nat.zero_le _, Nat.zero_le _⟩ (ok_Ab_isFunction fun r11 he11 => ⟨_, rfl, ?_⟩)
  refine zx_if_eq 20 (q := 8) dd_Ab_state_5 rfl (by decide) (fun hc1 => ?_) (fun hc1 => ?_)
  · skip
    replace hc1 := zb_0.mp hc1
    refine zx_iconst (-1) (q := 21) dd_Ab_state_20 rfl (by decide) ?_
    exact zx_iret dd_Ab_state_21 rfl (hq _ (by first | (simp [pa_state, he11, hc1]; done) | (clear hq; simp_all [pa_state]; done)))
  · skip
    replace hc1 := zb_n0.mp hc1
    subst hc1
    obtain ⟨f, hf, rfl⟩ := pa_isF_n he11
    refine zx_aload_n (q := 9) dd_Ab_state_8 rfl rfl ?_
    refine zx_get (q := 12) dd_Ab_state_9 rfl fl_Ab_18 at_ab rfl ?_
    refine zx_iload_n (q := 13) dd_Ab_state_12 rfl rfl ?_
    refine zx_aald (q := 14) dd_Ab_state_13 rfl (fun _ => rfl) at_b5 rfl (by omega) (by decide) (fns_at (by omega)) ?_
    refine zx_get (q := 17) dd_Ab_state_14 rfl fl_Ab_56 (ah_f0 hf) rfl ?_
    refine zx_goto 21 dd_Ab_state_17 (by decide) ?_
    exact zx_iret dd_Ab_state_21 rfl (hq _ (by first | (simp [pa_state, he11, pa_cl hf]; done) | (clear hq; simp_all [pa_state]; done)))
set_option maxRecDepth 100000 in
set_option maxHeartbeats 4000000 in
theorem ok_Ab_address {E : zxE} {b n : Nat} {H : Nat → zG} {D : zMd} {B : zB} {Q : Option Value → zxH → Nat → Prop} {x : Int32} (hq : ∀ r, pa_address H x = r → Q (some (.int r)) (zs b (B, hF H, D)) n) : zx_Ok E my_Ab_address mi_Ab_address [.ref b, .int x] (zs b (B, hF H, D)) n Q := by
  refine zx_start [some (.ref b), some (.int x)] (by decide) rfl rfl (Nat.le_of_ble_eq_true rfl) rfl ?_
  refine zx_aload_n (q := 1) dd_Ab_address_0 rfl rfl ?_
  refine zx_iload_n (q := 2) dd_Ab_address_1 rfl rfl ?_
  refine zx_cV1i (q := 5) dd_Ab_address_2 rfl cv_Ab_address_34 ⟨rfl, rfl⟩ at_ab rfl rfl (Nat.le_of_ble_eq_true rfl) ⟨Nat.zero_le _, Nat.zero_le _⟩ (ok_Ab_isOn fun r12 he12 => ⟨_, rfl, ?_⟩)
  refine zx_if_eq 23 (q := 8) dd_Ab_address_5 rfl (by decide) (fun hc1 => ?_) (fun hc1 => ?_)
  · skip
    replace hc1 := zb_0.mp hc1
    refine zx_iconst (-1) (q := 24) dd_Ab_address_23 rfl (by decide) ?_
    exact zx_iret dd_Ab_address_24 rfl (hq _ (by first | (simp [pa_address, he12, hc1]; done) | (clear hq; simp_all [pa_address]; done)))
  · skip
    replace hc1 := zb_n0.mp hc1
    subst hc1
    obtain ⟨f, hf, rfl⟩ := pa_isOn_n he12
    refine zx_aload_n (q := 9) dd_Ab_address_8 rfl rfl ?_
    refine zx_get (q := 12) dd_Ab_address_9 rfl fl_Ab_18 at_ab rfl ?_
    refine zx_iload_n (q := 13) dd_Ab_address_12 rfl rfl ?_
    refine zx_aald (q := 14) dd_Ab_address_13 rfl (fun _ => rfl) at_b5 rfl (by omega) (by decide) (fns_at (by omega)) ?_
    refine zx_get (q := 17) dd_Ab_address_14 rfl fl_Ab_48 (ah_f0 hf) rfl ?_
    refine zx_get (q := 20) dd_Ab_address_17 rfl fl_Ab_60 (ah_f1 hf) rfl ?_
    refine zx_goto 24 dd_Ab_address_20 (by decide) ?_
    exact zx_iret dd_Ab_address_24 rfl (hq _ (by first | (simp [pa_address, he12, pa_cl hf]; done) | (clear hq; simp_all [pa_address]; done)))
set_option maxRecDepth 100000 in
set_option maxHeartbeats 4000000 in
theorem ok_Ab_noted {E : zxE} {b n : Nat} {H : Nat → zG} {D : zMd} {B : zB} {Q : Option Value → zxH → Nat → Prop} {x y : Int32} (hq : ∀ r, pa_noted H x y = r → Q (some (.int r)) (zs b (B, hF H, D)) n) : zx_Ok E my_Ab_noted mi_Ab_noted [.ref b, .int x, .int y] (zs b (B, hF H, D)) n Q := by
  refine zx_start [some (.ref b), some (.int x), some (.int y)] (by decide) rfl rfl (Nat.le_of_ble_eq_true rfl) rfl ?_
  refine zx_aload_n (q := 1) dd_Ab_noted_0 rfl rfl ?_
  refine zx_iload_n (q := 2) dd_Ab_noted_1 rfl rfl ?_
  refine zx_cV1i (q := 5) dd_Ab_noted_2 rfl cv_Ab_noted_34 ⟨rfl, rfl⟩ at_ab rfl rfl (Nat.le_of_ble_eq_true rfl) ⟨Nat.zero_le _, Nat.zero_le _⟩ (ok_Ab_isOn fun r13 he13 => ⟨_, rfl, ?_⟩)
  refine zx_if_eq 30 (q := 8) dd_Ab_noted_5 rfl (by decide) (fun hc1 => ?_) (fun hc1 => ?_)
  · skip
    replace hc1 := zb_0.mp hc1
    refine zx_iconst (-1) (q := 31) dd_Ab_noted_30 rfl (by decide) ?_
    exact zx_iret dd_Ab_noted_31 rfl (hq _ (by first | (simp [pa_noted, he13, hc1]; done) | (clear hq; simp_all [pa_noted]; done)))
  · skip
    replace hc1 := zb_n0.mp hc1
    subst hc1
    obtain ⟨f, hf, rfl⟩ := pa_isOn_n he13
    refine zx_aload_n (q := 9) dd_Ab_noted_8 rfl rfl ?_
    refine zx_iload_n (q := 10) dd_Ab_noted_9 rfl rfl ?_
    refine zx_cV1i (q := 13) dd_Ab_noted_10 rfl cv_Ab_noted_30 ⟨rfl, rfl⟩ at_ab rfl rfl (Nat.le_of_ble_eq_true rfl) ⟨Nat.zero_le _, Nat.zero_le _⟩ (ok_Ab_isFunction fun r14 he14 => ⟨_, rfl, ?_⟩)
    refine zx_if_eq 30 (q := 16) dd_Ab_noted_13 rfl (by decide) (fun hc2 => ?_) (fun hc2 => ?_)
    · skip
      replace hc2 := zb_0.mp hc2
      refine zx_iconst (-1) (q := 31) dd_Ab_noted_30 rfl (by decide) ?_
      exact zx_iret dd_Ab_noted_31 rfl (hq _ (by first | (simp [pa_noted, he13, pa_cl hf, he14, hc2]; done) | (clear hq; simp_all [pa_noted]; done)))
    · skip
      replace hc2 := zb_n0.mp hc2
      subst hc2
      obtain ⟨g, hg, rfl⟩ := pa_isF_n he14
      refine zx_aload_n (q := 17) dd_Ab_noted_16 rfl rfl ?_
      refine zx_get (q := 20) dd_Ab_noted_17 rfl fl_Ab_18 at_ab rfl ?_
      refine zx_iload_n (q := 21) dd_Ab_noted_20 rfl rfl ?_
      refine zx_aald (q := 22) dd_Ab_noted_21 rfl (fun _ => rfl) at_b5 rfl (by omega) (by decide) (fns_at (by omega)) ?_
      refine zx_get (q := 25) dd_Ab_noted_22 rfl fl_Ab_63 (ah_f0 hf) rfl ?_
      refine zx_iload_n (q := 26) dd_Ab_noted_25 rfl rfl ?_
      refine zx_iald (q := 27) dd_Ab_noted_26 rfl (ah_f2 hf) rfl (by omega) (by decide) ?_
      refine zx_goto 31 dd_Ab_noted_27 (by decide) ?_
      exact zx_iret dd_Ab_noted_31 rfl (hq _ (by first | (simp [pa_noted, he13, pa_cl hf, he14, pa_cl hg]; done) | (clear hq; simp_all [pa_noted]; done)))
set_option maxRecDepth 100000 in
set_option maxHeartbeats 4000000 in
theorem ok_Ab_delivered {E : zxE} {b n : Nat} {H : Nat → zG} {D : zMd} {B : zB} {Q : Option Value → zxH → Nat → Prop} {x : Int32} (hq : ∀ r, pa_delivered H x = r → Q (some (.int r)) (zs b (B, hF H, D)) n) : zx_Ok E my_Ab_delivered mi_Ab_delivered [.ref b, .int x] (zs b (B, hF H, D)) n Q := by
  refine zx_start [some (.ref b), some (.int x)] (by decide) rfl rfl (Nat.le_of_ble_eq_true rfl) rfl ?_
  refine zx_aload_n (q := 1) dd_Ab_delivered_0 rfl rfl ?_
  refine zx_iload_n (q := 2) dd_Ab_delivered_1 rfl rfl ?_
  refine zx_cV1i (q := 5) dd_Ab_delivered_2 rfl cv_Ab_delivered_34 ⟨rfl, rfl⟩ at_ab rfl rfl (Nat.le_of_ble_eq_true rfl) ⟨Nat.zero_le _, Nat.zero_le _⟩ (ok_Ab_isOn fun r15 he15 => ⟨_, rfl, ?_⟩)
  refine zx_if_eq 20 (q := 8) dd_Ab_delivered_5 rfl (by decide) (fun hc1 => ?_) (fun hc1 => ?_)
  · skip
    replace hc1 := zb_0.mp hc1
    refine zx_iconst (-1) (q := 21) dd_Ab_delivered_20 rfl (by decide) ?_
    exact zx_iret dd_Ab_delivered_21 rfl (hq _ (by first | (simp [pa_delivered, he15, hc1]; done) | (clear hq; simp_all [pa_delivered]; done)))
  · skip
    replace hc1 := zb_n0.mp hc1
    subst hc1
    obtain ⟨f, hf, rfl⟩ := pa_isOn_n he15
    refine zx_aload_n (q := 9) dd_Ab_delivered_8 rfl rfl ?_
    refine zx_get (q := 12) dd_Ab_delivered_9 rfl fl_Ab_18 at_ab rfl ?_
    refine zx_iload_n (q := 13) dd_Ab_delivered_12 rfl rfl ?_
    refine zx_aald (q := 14) dd_Ab_delivered_13 rfl (fun _ => rfl) at_b5 rfl (by omega) (by decide) (fns_at (by omega)) ?_
    refine zx_get (q := 17) dd_Ab_delivered_14 rfl fl_Ab_138 (ah_f0 hf) rfl ?_
    refine zx_goto 21 dd_Ab_delivered_17 (by decide) ?_
    exact zx_iret dd_Ab_delivered_21 rfl (hq _ (by first | (simp [pa_delivered, he15, pa_cl hf]; done) | (clear hq; simp_all [pa_delivered]; done)))
set_option maxRecDepth 100000 in
set_option maxHeartbeats 4000000 in
theorem ok_Ab_outgoing {E : zxE} {b n : Nat} {H : Nat → zG} {D : zMd} {B : zB} {Q : Option Value → zxH → Nat → Prop} {x : Int32} (hq : ∀ r, pa_outgoing H x = r → Q (some (.int r)) (zs b (B, hF H, D)) n) : zx_Ok E my_Ab_outgoing mi_Ab_outgoing [.ref b, .int x] (zs b (B, hF H, D)) n Q := by
  refine zx_start [some (.ref b), some (.int x), none] (by decide) rfl rfl (Nat.le_of_ble_eq_true rfl) rfl ?_
  refine zx_aload_n (q := 1) dd_Ab_outgoing_0 rfl rfl ?_
  refine zx_iload_n (q := 2) dd_Ab_outgoing_1 rfl rfl ?_
  refine zx_cV1i (q := 5) dd_Ab_outgoing_2 rfl cv_Ab_outgoing_34 ⟨rfl, rfl⟩ at_ab rfl rfl (Nat.le_of_ble_eq_true rfl) ⟨Nat.zero_le _, Nat.zero_le _⟩ (ok_Ab_isOn fun r16 he16 => ⟨_, rfl, ?_⟩)
  refine zx_if_ne 10 (q := 8) dd_Ab_outgoing_5 rfl (by decide) (fun hc1 => ?_) (fun hc1 => ?_)
  · skip
    replace hc1 := zb_n0.mp hc1
    subst hc1
    obtain ⟨f, hf, rfl⟩ := pa_isOn_n he16
    refine zx_aload_n (q := 11) dd_Ab_outgoing_10 rfl rfl ?_
    refine zx_get (q := 14) dd_Ab_outgoing_11 rfl fl_Ab_18 at_ab rfl ?_
    refine zx_iload_n (q := 15) dd_Ab_outgoing_14 rfl rfl ?_
    refine zx_aald (q := 16) dd_Ab_outgoing_15 rfl (fun _ => rfl) at_b5 rfl (by omega) (by decide) (fns_at (by omega)) ?_
    refine zx_get (q := 19) dd_Ab_outgoing_16 rfl fl_Ab_78 (ah_f0 hf) rfl ?_
    refine zx_astore_2 (q := 20) dd_Ab_outgoing_19 rfl (by decide) rfl ?_
    refine zx_aload_n (q := 21) dd_Ab_outgoing_20 rfl rfl ?_
    refine zx_get (q := 24) dd_Ab_outgoing_21 rfl fl_Ab_129 (ah_f6 hf) rfl ?_
    refine zx_if_ne 34 (q := 27) dd_Ab_outgoing_24 rfl (by decide) (fun hc2 => ?_) (fun hc2 => ?_)
    · skip
      refine zx_aload_n (q := 35) dd_Ab_outgoing_34 rfl rfl ?_
      refine zx_get (q := 38) dd_Ab_outgoing_35 rfl fl_Ab_129 (ah_f6 hf) rfl ?_
      exact zx_iret dd_Ab_outgoing_38 rfl (hq _ (by first | (simp [pa_outgoing, he16, pa_cl hf, hc2]; done) | (clear hq; simp_all [pa_outgoing]; done)))
    · skip
      refine zx_aload_n (q := 28) dd_Ab_outgoing_27 rfl rfl ?_
      refine zx_get (q := 31) dd_Ab_outgoing_28 rfl fl_Ab_132 (ah_f6 hf) rfl ?_
      refine zx_goto 38 dd_Ab_outgoing_31 (by decide) ?_
      exact zx_iret dd_Ab_outgoing_38 rfl (hq _ (by first | (simp [pa_outgoing, he16, pa_cl hf, eq_true hc2]; done) | (clear hq; simp_all [pa_outgoing]; done)))
  · skip
    replace hc1 := zb_0.mp hc1
    refine zx_iconst (-1) (q := 9) dd_Ab_outgoing_8 rfl (by decide) ?_
    exact zx_iret dd_Ab_outgoing_9 rfl (hq _ (by first | (simp [pa_outgoing, he16, hc1]; done) | (clear hq; simp_all [pa_outgoing]; done)))
set_option maxRecDepth 100000 in
set_option maxHeartbeats 4000000 in
theorem ok_Ab_incoming {E : zxE} {b n : Nat} {H : Nat → zG} {D : zMd} {B : zB} {Q : Option Value → zxH → Nat → Prop} {x : Int32} (hI : ∀ g < 5, (H g).2.2.2.1 ≤ 1) (hq : ∀ r, pa_incoming H x = r → Q (some (.int r)) (zs b (B, hF H, D)) n) : zx_Ok E my_Ab_incoming mi_Ab_incoming [.ref b, .int x] (zs b (B, hF H, D)) n Q := by
  refine zx_start [some (.ref b), some (.int x)] (by decide) rfl rfl (Nat.le_of_ble_eq_true rfl) rfl ?_
  refine zx_aload_n (q := 1) dd_Ab_incoming_0 rfl rfl ?_
  refine zx_iload_n (q := 2) dd_Ab_incoming_1 rfl rfl ?_
  refine zx_cV1i (q := 5) dd_Ab_incoming_2 rfl cv_Ab_incoming_34 ⟨rfl, rfl⟩ at_ab rfl rfl (Nat.le_of_ble_eq_true rfl) ⟨Nat.zero_le _, Nat.zero_le _⟩ (ok_Ab_isOn fun r17 he17 => ⟨_, rfl, ?_⟩)
  refine zx_if_eq 20 (q := 8) dd_Ab_incoming_5 rfl (by decide) (fun hc1 => ?_) (fun hc1 => ?_)
  · skip
    replace hc1 := zb_0.mp hc1
    refine zx_iconst (-1) (q := 21) dd_Ab_incoming_20 rfl (by decide) ?_
    exact zx_iret dd_Ab_incoming_21 rfl (hq _ (by first | (simp [pa_incoming, he17, hc1]; done) | (clear hq; simp_all [pa_incoming]; done)))
  · skip
    replace hc1 := zb_n0.mp hc1
    subst hc1
    obtain ⟨f, hf, rfl⟩ := pa_isOn_n he17
    refine zx_aload_n (q := 9) dd_Ab_incoming_8 rfl rfl ?_
    refine zx_get (q := 12) dd_Ab_incoming_9 rfl fl_Ab_18 at_ab rfl ?_
    refine zx_iload_n (q := 13) dd_Ab_incoming_12 rfl rfl ?_
    refine zx_aald (q := 14) dd_Ab_incoming_13 rfl (fun _ => rfl) at_b5 rfl (by omega) (by decide) (fns_at (by omega)) ?_
    refine zx_cV0i (q := 17) dd_Ab_incoming_14 rfl cv_Ab_incoming_135 ⟨rfl, rfl⟩ (ah_f0 hf) rfl rfl (Nat.le_of_ble_eq_true rfl) ⟨Nat.zero_le _, Nat.zero_le _⟩ (ah_count hf (hI f hf) fun r18 he18 => ⟨_, rfl, ?_⟩)
    refine zx_goto 21 dd_Ab_incoming_17 (by decide) ?_
    exact zx_iret dd_Ab_incoming_21 rfl (hq _ (by first | (simp [pa_incoming, he17, pa_cl hf, he18]; done) | (clear hq; simp_all [pa_incoming]; done)))
set_option maxRecDepth 100000 in
set_option maxHeartbeats 4000000 in
theorem ok_Ab_byteOf {E : zxE} {b n : Nat} {H : Nat → zG} {D : zMd} {B : zB} {Q : Option Value → zxH → Nat → Prop} {x y : Int32} (hq : ∀ r, pa_byteOf H x y = r → Q (some (.int r)) (zs b (B, hF H, D)) n) : zx_Ok E my_Ab_byteOf mi_Ab_byteOf [.ref b, .int x, .int y] (zs b (B, hF H, D)) n Q := by
  refine zx_start [some (.ref b), some (.int x), some (.int y)] (by decide) rfl rfl (Nat.le_of_ble_eq_true rfl) rfl ?_
  refine zx_aload_n (q := 1) dd_Ab_byteOf_0 rfl rfl ?_
  refine zx_iload_n (q := 2) dd_Ab_byteOf_1 rfl rfl ?_
  refine zx_cV1i (q := 5) dd_Ab_byteOf_2 rfl cv_Ab_byteOf_141 ⟨rfl, rfl⟩ at_ab rfl rfl (Nat.le_of_ble_eq_true rfl) ⟨Nat.zero_le _, Nat.zero_le _⟩ (ok_Ab_hasMessage fun r19 he19 => ⟨_, rfl, ?_⟩)
  refine zx_if_eq 24 (q := 8) dd_Ab_byteOf_5 rfl (by decide) (fun hc1 => ?_) (fun hc1 => ?_)
  · skip
    replace hc1 := zb_0.mp hc1
    refine zx_iconst (-1) (q := 25) dd_Ab_byteOf_24 rfl (by decide) ?_
    exact zx_iret dd_Ab_byteOf_25 rfl (hq _ (by first | (simp [pa_byteOf, he19, hc1]; done) | (clear hq; simp_all [pa_byteOf]; done)))
  · skip
    replace hc1 := zb_n0.mp hc1
    subst hc1
    obtain ⟨f, hf, rfl⟩ := pa_has_n he19
    refine zx_aload_n (q := 9) dd_Ab_byteOf_8 rfl rfl ?_
    refine zx_get (q := 12) dd_Ab_byteOf_9 rfl fl_Ab_18 at_ab rfl ?_
    refine zx_iload_n (q := 13) dd_Ab_byteOf_12 rfl rfl ?_
    refine zx_aald (q := 14) dd_Ab_byteOf_13 rfl (fun _ => rfl) at_b5 rfl (by omega) (by decide) (fns_at (by omega)) ?_
    refine zx_get (q := 17) dd_Ab_byteOf_14 rfl fl_Ab_144 (ah_f0 hf) rfl ?_
    refine zx_iload_n (q := 18) dd_Ab_byteOf_17 rfl rfl ?_
    refine zx_cV1i (q := 21) dd_Ab_byteOf_18 rfl cv_Ab_byteOf_162 ⟨rfl, rfl⟩ (ah_f4 hf) rfl rfl (Nat.le_of_ble_eq_true rfl) ⟨Nat.zero_le _, Nat.zero_le _⟩ (ah_byteAt hf fun r20 he20 => ⟨_, rfl, ?_⟩)
    refine zx_goto 25 dd_Ab_byteOf_21 (by decide) ?_
    exact zx_iret dd_Ab_byteOf_25 rfl (hq _ (by first | (simp [pa_byteOf, he19, pa_cl hf, he20]; done) | (clear hq; simp_all [pa_byteOf]; done)))
set_option maxRecDepth 100000 in
set_option maxHeartbeats 4000000 in
theorem ok_Ab_message {E : zxE} {b n : Nat} {H : Nat → zG} {D : zMd} {B : zB} {Q : Option Value → zxH → Nat → Prop} {x y : Int32} (hq : ∀ r, pa_message H x y = r → Q (some (.int r)) (zs b (B, hF H, D)) n) : zx_Ok E my_Ab_message mi_Ab_message [.ref b, .int x, .int y] (zs b (B, hF H, D)) n Q := by
  refine zx_start [some (.ref b), some (.int x), some (.int y), none] (by decide) rfl rfl (Nat.le_of_ble_eq_true rfl) rfl ?_
  refine zx_aload_n (q := 1) dd_Ab_message_0 rfl rfl ?_
  refine zx_iload_n (q := 2) dd_Ab_message_1 rfl rfl ?_
  refine zx_cV1i (q := 5) dd_Ab_message_2 rfl cv_Ab_message_141 ⟨rfl, rfl⟩ at_ab rfl rfl (Nat.le_of_ble_eq_true rfl) ⟨Nat.zero_le _, Nat.zero_le _⟩ (ok_Ab_hasMessage fun r21 he21 => ⟨_, rfl, ?_⟩)
  refine zx_if_ne 10 (q := 8) dd_Ab_message_5 rfl (by decide) (fun hc1 => ?_) (fun hc1 => ?_)
  · skip
    replace hc1 := zb_n0.mp hc1
    subst hc1
    obtain ⟨f, hf, rfl⟩ := pa_has_n he21
    refine zx_aload_n (q := 11) dd_Ab_message_10 rfl rfl ?_
    refine zx_get (q := 14) dd_Ab_message_11 rfl fl_Ab_18 at_ab rfl ?_
    refine zx_iload_n (q := 15) dd_Ab_message_14 rfl rfl ?_
    refine zx_aald (q := 16) dd_Ab_message_15 rfl (fun _ => rfl) at_b5 rfl (by omega) (by decide) (fns_at (by omega)) ?_
    refine zx_get (q := 19) dd_Ab_message_16 rfl fl_Ab_144 (ah_f0 hf) rfl ?_
    refine zx_astore_3 (q := 20) dd_Ab_message_19 rfl (by decide) rfl ?_
    refine zx_iload_n (q := 21) dd_Ab_message_20 rfl rfl ?_
    by_cases g0 : y < nI 0
    · skip
      refine zx_tableOut 80 dd_Ab_message_21 (Or.inl (by rw [Int32.lt_iff_toInt_lt] at g0; exact g0)) (by decide) ?_
      have z0 : ¬ y = nI 0 := fun z => by subst z; exact absurd g0 (by decide)
      have z1 : ¬ y = nI 1 := fun z => by subst z; exact absurd g0 (by decide)
      have z2 : ¬ y = nI 2 := fun z => by subst z; exact absurd g0 (by decide)
      have z3 : ¬ y = nI 3 := fun z => by subst z; exact absurd g0 (by decide)
      refine zx_iconst (-1) (q := 81) dd_Ab_message_80 rfl (by decide) ?_
      exact zx_iret dd_Ab_message_81 rfl (hq _ (by first | (simp [pa_message, ← zb_f, ← zb_1, he21, pa_cl hf, z0, z1, z2, z3]; done) | (clear hq; simp_all [pa_message, zb]; done)))
    obtain ⟨j, hj, rfl⟩ := nI_of g0
    by_cases g1 : j < 4
    · skip
      match j, g1 with
      | 0, _ =>
        refine zx_tableIn 52 dd_Ab_message_21 (by decide) (by decide) (show _ = some (31 : Int) from rfl) (by decide) ?_
        refine zx_aload_n (q := 53) dd_Ab_message_52 rfl rfl ?_
        refine zx_get (q := 56) dd_Ab_message_53 rfl fl_Ab_148 (ah_f4 hf) rfl ?_
        exact zx_iret dd_Ab_message_56 rfl (hq _ (by first | (simp [pa_message, ← zb_f, ← zb_1, he21, pa_cl hf, show ((nI 0 : Int32) = nI 0) = True from by decide]; done) | (clear hq; simp_all [pa_message, zb]; done)))
      | 1, _ =>
        refine zx_tableIn 57 dd_Ab_message_21 (by decide) (by decide) (show _ = some (36 : Int) from rfl) (by decide) ?_
        refine zx_aload_n (q := 58) dd_Ab_message_57 rfl rfl ?_
        refine zx_get (q := 61) dd_Ab_message_58 rfl fl_Ab_153 (ah_f4 hf) rfl ?_
        exact zx_iret dd_Ab_message_61 rfl (hq _ (by first | (simp [pa_message, ← zb_f, ← zb_1, he21, pa_cl hf, show ((nI 1 : Int32) = nI 0) = False from by decide, show ((nI 1 : Int32) = nI 1) = True from by decide]; done) | (clear hq; simp_all [pa_message, zb]; done)))
      | 2, _ =>
        refine zx_tableIn 62 dd_Ab_message_21 (by decide) (by decide) (show _ = some (41 : Int) from rfl) (by decide) ?_
        refine zx_aload_n (q := 63) dd_Ab_message_62 rfl rfl ?_
        refine zx_get (q := 66) dd_Ab_message_63 rfl fl_Ab_156 (ah_f4 hf) rfl ?_
        exact zx_iret dd_Ab_message_66 rfl (hq _ (by first | (simp [pa_message, ← zb_f, ← zb_1, he21, pa_cl hf, show ((nI 2 : Int32) = nI 0) = False from by decide, show ((nI 2 : Int32) = nI 1) = False from by decide, show ((nI 2 : Int32) = nI 2) = True from by decide]; done) | (clear hq; simp_all [pa_message, zb]; done)))
      | 3, _ =>
        refine zx_tableIn 67 dd_Ab_message_21 (by decide) (by decide) (show _ = some (46 : Int) from rfl) (by decide) ?_
        refine zx_aload_n (q := 68) dd_Ab_message_67 rfl rfl ?_
        refine zx_get (q := 71) dd_Ab_message_68 rfl fl_Ab_159 (ah_f4 hf) rfl ?_
        refine zx_if_eq 78 (q := 74) dd_Ab_message_71 rfl (by decide) (fun hc2 => ?_) (fun hc2 => ?_)
        · skip
          replace hc2 := zb_0.mp hc2
          refine zx_iconst (nI 0) (q := 79) dd_Ab_message_78 rfl (by decide) ?_
          exact zx_iret dd_Ab_message_79 rfl (hq _ (by first | (simp [pa_message, ← zb_f, ← zb_1, he21, pa_cl hf, show ((nI 3 : Int32) = nI 0) = False from by decide, show ((nI 3 : Int32) = nI 1) = False from by decide, show ((nI 3 : Int32) = nI 2) = False from by decide, show ((nI 3 : Int32) = nI 3) = True from by decide, hc2]; done) | (clear hq; simp_all [pa_message, zb]; done)))
        · skip
          replace hc2 := zb_n0.mp hc2
          refine zx_iconst (nI 1) (q := 75) dd_Ab_message_74 rfl (by decide) ?_
          refine zx_goto 79 dd_Ab_message_75 (by decide) ?_
          exact zx_iret dd_Ab_message_79 rfl (hq _ (by first | (simp [pa_message, ← zb_f, ← zb_1, he21, pa_cl hf, show ((nI 3 : Int32) = nI 0) = False from by decide, show ((nI 3 : Int32) = nI 1) = False from by decide, show ((nI 3 : Int32) = nI 2) = False from by decide, show ((nI 3 : Int32) = nI 3) = True from by decide, hc2]; done) | (clear hq; simp_all [pa_message, zb]; done)))
    refine zx_tableOut 80 dd_Ab_message_21 (Or.inr (by rw [nI_toInt hj]; omega)) (by decide) ?_
    have z0 : ¬ nI j = nI 0 := fun z => absurd ((nI_eq hj (by decide)).mp z) (by omega)
    have z1 : ¬ nI j = nI 1 := fun z => absurd ((nI_eq hj (by decide)).mp z) (by omega)
    have z2 : ¬ nI j = nI 2 := fun z => absurd ((nI_eq hj (by decide)).mp z) (by omega)
    have z3 : ¬ nI j = nI 3 := fun z => absurd ((nI_eq hj (by decide)).mp z) (by omega)
    refine zx_iconst (-1) (q := 81) dd_Ab_message_80 rfl (by decide) ?_
    exact zx_iret dd_Ab_message_81 rfl (hq _ (by first | (simp [pa_message, ← zb_f, ← zb_1, he21, pa_cl hf, z0, z1, z2, z3]; done) | (clear hq; simp_all [pa_message, zb]; done)))
  · skip
    replace hc1 := zb_0.mp hc1
    refine zx_iconst (-1) (q := 9) dd_Ab_message_8 rfl (by decide) ?_
    exact zx_iret dd_Ab_message_9 rfl (hq _ (by first | (simp [pa_message, ← zb_f, ← zb_1, he21, hc1]; done) | (clear hq; simp_all [pa_message, zb]; done)))
set_option maxRecDepth 100000 in
set_option maxHeartbeats 4000000 in
theorem ok_Ab_waiting {E : zxE} {b n : Nat} {H : Nat → zG} {D : zMd} {B : zB} {Q : Option Value → zxH → Nat → Prop} (hq : Q (some (.int (nI B.2.2.2.1))) (zs b (B, hF H, D)) n) : zx_Ok E my_Ab_waiting mi_Ab_waiting [.ref b] (zs b (B, hF H, D)) n Q := by
  obtain ⟨ids, con, snd, cnt, ovf, now⟩ := B
  refine zx_start [some (.ref b)] (by decide) rfl rfl (Nat.le_of_ble_eq_true rfl) rfl ?_
  refine zx_aload_n (q := 1) dd_Ab_waiting_0 rfl rfl ?_
  refine zx_get (q := 4) dd_Ab_waiting_1 rfl fl_Ab_12 at_ab rfl ?_
  refine zx_get (q := 7) dd_Ab_waiting_4 rfl fl_Ab_88 at_b1 rfl ?_
  exact zx_iret dd_Ab_waiting_7 rfl hq
set_option maxRecDepth 100000 in
set_option maxHeartbeats 4000000 in
theorem ok_Ab_overflowed {E : zxE} {b n : Nat} {H : Nat → zG} {D : zMd} {B : zB} {Q : Option Value → zxH → Nat → Prop} (hq : Q (some (.int B.2.2.2.2.1)) (zs b (B, hF H, D)) n) : zx_Ok E my_Ab_overflowed mi_Ab_overflowed [.ref b] (zs b (B, hF H, D)) n Q := by
  obtain ⟨ids, con, snd, cnt, ovf, now⟩ := B
  refine zx_start [some (.ref b)] (by decide) rfl rfl (Nat.le_of_ble_eq_true rfl) rfl ?_
  refine zx_aload_n (q := 1) dd_Ab_overflowed_0 rfl rfl ?_
  refine zx_get (q := 4) dd_Ab_overflowed_1 rfl fl_Ab_12 at_ab rfl ?_
  refine zx_get (q := 7) dd_Ab_overflowed_4 rfl fl_Ab_112 at_b1 rfl ?_
  exact zx_iret dd_Ab_overflowed_7 rfl hq
theorem pc_next_ge {ids : Nat → Int32} {cnt : Nat} (h : cnt ≤ 48) : 0 ≤ pc_next ids cnt ↔ cnt ≠ 0 := by
  unfold pc_next
  by_cases g : cnt = 0
  · rw [if_pos g]
    simp [g]
  · rw [if_neg g]
    have := pc_least_le ids (cnt - 1)
    exact ⟨fun _ => g, fun _ => nI_pos' (by omega)⟩
set_option maxRecDepth 100000 in
set_option maxHeartbeats 4000000 in
theorem ok_Ab_identifier {E : zxE} {b n : Nat} {H : Nat → zG} {D : zMd} {B : zB} {Q : Option Value → zxH → Nat → Prop} (hw : B.2.2.2.1 ≤ 48) (hq : ∀ r, pa_identifier B = r → Q (some (.int r)) (zs b (B, hF H, D)) n) : zx_Ok E my_Ab_identifier mi_Ab_identifier [.ref b] (zs b (B, hF H, D)) n Q := by
  obtain ⟨ids, con, snd, cnt, ovf, now⟩ := B
  have hcn : cnt ≤ 48 := hw
  refine zx_start [some (.ref b), none] (by decide) rfl rfl (Nat.le_of_ble_eq_true rfl) rfl ?_
  refine zx_aload_n (q := 1) dd_Ab_identifier_0 rfl rfl ?_
  refine zx_get (q := 4) dd_Ab_identifier_1 rfl fl_Ab_12 at_ab rfl ?_
  refine zx_cV0i (q := 7) dd_Ab_identifier_4 rfl cv_Ab_identifier_91 ⟨rfl, rfl⟩ at_b1 rfl rfl (Nat.le_of_ble_eq_true rfl) ⟨Nat.zero_le _, Nat.zero_le _⟩ (ok_Bu_placeOfNext hw ⟨_, rfl, ?_⟩)
  refine zx_istore_1 (q := 8) dd_Ab_identifier_7 rfl (by decide) rfl ?_
  refine zx_iload_n (q := 9) dd_Ab_identifier_8 rfl rfl ?_
  refine zx_if_ge 16 (q := 12) dd_Ab_identifier_9 rfl (by decide) (fun hc1 => ?_) (fun hc1 => ?_)
  · skip
    replace hc1 := (pc_next_ge hcn).mp hc1
    have hlt : pc_least ids (cnt - 1) < cnt := by have := pc_least_le ids (cnt - 1); omega
    rw [show pc_next ids cnt = nI (pc_least ids (cnt - 1)) from if_neg hc1]
    refine zx_aload_n (q := 17) dd_Ab_identifier_16 rfl rfl ?_
    refine zx_get (q := 20) dd_Ab_identifier_17 rfl fl_Ab_12 at_ab rfl ?_
    refine zx_get (q := 23) dd_Ab_identifier_20 rfl fl_Ab_95 at_b1 rfl ?_
    refine zx_iload_n (q := 24) dd_Ab_identifier_23 rfl rfl ?_
    refine zx_iald (q := 25) dd_Ab_identifier_24 rfl at_b2 rfl (by omega) (by decide) ?_
    exact zx_iret dd_Ab_identifier_25 rfl (hq _ (by first | (simp [pa_identifier, hc1]; done) | (clear hq; simp_all [pa_identifier]; done)))
  · skip
    replace hc1 : cnt = 0 := Decidable.byContradiction fun z => hc1 ((pc_next_ge hcn).mpr z)
    refine zx_iconst (-1) (q := 13) dd_Ab_identifier_12 rfl (by decide) ?_
    refine zx_goto 25 dd_Ab_identifier_13 (by decide) ?_
    exact zx_iret dd_Ab_identifier_25 rfl (hq _ (by first | (simp [pa_identifier, hc1]; done) | (clear hq; simp_all [pa_identifier]; done)))
set_option maxRecDepth 100000 in
set_option maxHeartbeats 4000000 in
theorem ok_Ab_data {E : zxE} {b n : Nat} {H : Nat → zG} {D : zMd} {B : zB} {Q : Option Value → zxH → Nat → Prop} (hw : B.2.2.2.1 ≤ 48) (hq : ∀ r, pa_data B = r → Q (some (.long r)) (zs b (B, hF H, D)) n) : zx_Ok E my_Ab_data mi_Ab_data [.ref b] (zs b (B, hF H, D)) n Q := by
  obtain ⟨ids, con, snd, cnt, ovf, now⟩ := B
  have hcn : cnt ≤ 48 := hw
  refine zx_start [some (.ref b), none] (by decide) rfl rfl (Nat.le_of_ble_eq_true rfl) rfl ?_
  refine zx_aload_n (q := 1) dd_Ab_data_0 rfl rfl ?_
  refine zx_get (q := 4) dd_Ab_data_1 rfl fl_Ab_12 at_ab rfl ?_
  refine zx_cV0i (q := 7) dd_Ab_data_4 rfl cv_Ab_data_91 ⟨rfl, rfl⟩ at_b1 rfl rfl (Nat.le_of_ble_eq_true rfl) ⟨Nat.zero_le _, Nat.zero_le _⟩ (ok_Bu_placeOfNext hw ⟨_, rfl, ?_⟩)
  refine zx_istore_1 (q := 8) dd_Ab_data_7 rfl (by decide) rfl ?_
  refine zx_iload_n (q := 9) dd_Ab_data_8 rfl rfl ?_
  refine zx_if_ge 16 (q := 12) dd_Ab_data_9 rfl (by decide) (fun hc1 => ?_) (fun hc1 => ?_)
  · skip
    replace hc1 := (pc_next_ge hcn).mp hc1
    have hlt : pc_least ids (cnt - 1) < cnt := by have := pc_least_le ids (cnt - 1); omega
    rw [show pc_next ids cnt = nI (pc_least ids (cnt - 1)) from if_neg hc1]
    refine zx_aload_n (q := 17) dd_Ab_data_16 rfl rfl ?_
    refine zx_get (q := 20) dd_Ab_data_17 rfl fl_Ab_12 at_ab rfl ?_
    refine zx_get (q := 23) dd_Ab_data_20 rfl fl_Ab_98 at_b1 rfl ?_
    refine zx_iload_n (q := 24) dd_Ab_data_23 rfl rfl ?_
    refine zx_lald (q := 25) dd_Ab_data_24 rfl at_b3 rfl (by omega) (by decide) ?_
    exact zx_lret dd_Ab_data_25 rfl (hq _ (by first | (simp [pa_data, hc1]; done) | (clear hq; simp_all [pa_data]; done)))
  · skip
    replace hc1 : cnt = 0 := Decidable.byContradiction fun z => hc1 ((pc_next_ge hcn).mpr z)
    refine zx_lconst (lN 0) (q := 13) dd_Ab_data_12 rfl (by decide) ?_
    refine zx_goto 25 dd_Ab_data_13 (by decide) ?_
    exact zx_lret dd_Ab_data_25 rfl (hq _ (by first | (simp [pa_data, hc1]; done) | (clear hq; simp_all [pa_data]; done)))
set_option maxRecDepth 100000 in
set_option maxHeartbeats 4000000 in
theorem ok_Ab_lose {E : zxE} {b n : Nat} {H : Nat → zG} {D : zMd} {B : zB} {Q : Option Value → zxH → Nat → Prop} (hw : B.2.2.2.1 ≤ 48) (hq : ∀ r B', pa_lose B = (r, B') → Q (some (.int (zb r))) (zs b (B', hF H, D)) n) : zx_Ok E my_Ab_lose mi_Ab_lose [.ref b] (zs b (B, hF H, D)) n Q := by
  obtain ⟨ids, con, snd, cnt, ovf, now⟩ := B
  have hcn : cnt ≤ 48 := hw
  refine zx_start [some (.ref b), none] (by decide) rfl rfl (Nat.le_of_ble_eq_true rfl) rfl ?_
  refine zx_aload_n (q := 1) dd_Ab_lose_0 rfl rfl ?_
  refine zx_get (q := 4) dd_Ab_lose_1 rfl fl_Ab_12 at_ab rfl ?_
  refine zx_cV0i (q := 7) dd_Ab_lose_4 rfl cv_Ab_lose_91 ⟨rfl, rfl⟩ at_b1 rfl rfl (Nat.le_of_ble_eq_true rfl) ⟨Nat.zero_le _, Nat.zero_le _⟩ (ok_Bu_placeOfNext hw ⟨_, rfl, ?_⟩)
  refine zx_istore_1 (q := 8) dd_Ab_lose_7 rfl (by decide) rfl ?_
  refine zx_iload_n (q := 9) dd_Ab_lose_8 rfl rfl ?_
  refine zx_if_ge 14 (q := 12) dd_Ab_lose_9 rfl (by decide) (fun hc1 => ?_) (fun hc1 => ?_)
  · skip
    replace hc1 := (pc_next_ge hcn).mp hc1
    have hlt : pc_least ids (cnt - 1) < cnt := by have := pc_least_le ids (cnt - 1); omega
    rw [show pc_next ids cnt = nI (pc_least ids (cnt - 1)) from if_neg hc1]
    refine zx_aload_n (q := 15) dd_Ab_lose_14 rfl rfl ?_
    refine zx_get (q := 18) dd_Ab_lose_15 rfl fl_Ab_12 at_ab rfl ?_
    refine zx_iload_n (q := 19) dd_Ab_lose_18 rfl rfl ?_
    refine zx_cV1v (q := 22) dd_Ab_lose_19 rfl cv_Ab_lose_105 ⟨rfl, rfl⟩ at_b1 rfl rfl (Nat.le_of_ble_eq_true rfl) ⟨Nat.zero_le _, Nat.zero_le _⟩ (ok_Bu_takeAway hw hlt ⟨rfl, ?_⟩)
    refine zx_iconst (nI 1) (q := 23) dd_Ab_lose_22 rfl (by decide) ?_
    exact zx_zret dd_Ab_lose_23 rfl (by decide) (by rw [zb_1]; exact hq _ _ (by first | (simp [pa_lose, hc1]; done) | (clear hq; simp_all [pa_lose]; done)))
  · skip
    replace hc1 : cnt = 0 := Decidable.byContradiction fun z => hc1 ((pc_next_ge hcn).mpr z)
    refine zx_iconst (nI 0) (q := 13) dd_Ab_lose_12 rfl (by decide) ?_
    exact zx_zret dd_Ab_lose_13 rfl (by decide) (by rw [zb_f]; exact hq _ _ (by first | (simp [pa_lose, hc1]; done) | (clear hq; simp_all [pa_lose]; done)))
set_option maxRecDepth 100000 in
set_option maxHeartbeats 4000000 in
theorem ok_Ab_request {E : zxE} {b n : Nat} {H : Nat → zG} {D : zMd} {B : zB} {Q : Option Value → zxH → Nat → Prop} {x : Int32} (hw : B.2.2.2.1 ≤ 48) (hq : ∀ r B', pa_request B H x = (r, B') → Q (some (.int (zb r))) (zs b (B', hF H, D)) n) : zx_Ok E my_Ab_request mi_Ab_request [.ref b, .int x] (zs b (B, hF H, D)) n Q := by
  obtain ⟨ids, con, snd, cnt, ovf, now⟩ := B
  refine zx_start [some (.ref b), some (.int x)] (by decide) rfl rfl (Nat.le_of_ble_eq_true rfl) rfl ?_
  refine zx_aload_n (q := 1) dd_Ab_request_0 rfl rfl ?_
  refine zx_iload_n (q := 2) dd_Ab_request_1 rfl rfl ?_
  refine zx_cV1i (q := 5) dd_Ab_request_2 rfl cv_Ab_request_34 ⟨rfl, rfl⟩ at_ab rfl rfl (Nat.le_of_ble_eq_true rfl) ⟨Nat.zero_le _, Nat.zero_le _⟩ (ok_Ab_isOn fun r22 he22 => ⟨_, rfl, ?_⟩)
  refine zx_if_ne 10 (q := 8) dd_Ab_request_5 rfl (by decide) (fun hc1 => ?_) (fun hc1 => ?_)
  · skip
    replace hc1 := zb_n0.mp hc1
    subst hc1
    obtain ⟨f, hf, rfl⟩ := pa_isOn_n he22
    refine zx_aload_n (q := 11) dd_Ab_request_10 rfl rfl ?_
    refine zx_get (q := 14) dd_Ab_request_11 rfl fl_Ab_12 at_ab rfl ?_
    refine zx_aload_n (q := 15) dd_Ab_request_14 rfl rfl ?_
    refine zx_get (q := 18) dd_Ab_request_15 rfl fl_Ab_18 at_ab rfl ?_
    refine zx_iload_n (q := 19) dd_Ab_request_18 rfl rfl ?_
    refine zx_aald (q := 20) dd_Ab_request_19 rfl (fun _ => rfl) at_b5 rfl (by omega) (by decide) (fns_at (by omega)) ?_
    refine zx_get (q := 23) dd_Ab_request_20 rfl fl_Ab_48 (ah_f0 hf) rfl ?_
    refine zx_ldc _ (q := 25) dd_Ab_request_23 rfl kk_Ab_67 ?_
    refine zx_sipush (nI 255) (q := 28) dd_Ab_request_25 rfl (by decide) ?_
    refine zx_ldc2 _ (q := 31) dd_Ab_request_28 rfl kk_Ab_68 ?_
    refine zx_cV4v (q := 34) dd_Ab_request_31 rfl cv_Ab_request_70 ⟨rfl, rfl⟩ at_b1 rfl rfl (Nat.le_of_ble_eq_true rfl) ⟨Nat.zero_le _, Nat.zero_le _⟩ (ah_put hf hw fun B23 he23 hw23 => ⟨rfl, ?_⟩)
    refine zx_iconst (nI 1) (q := 35) dd_Ab_request_34 rfl (by decide) ?_
    exact zx_zret dd_Ab_request_35 rfl (by decide) (by rw [zb_1]; exact hq _ _ (by first | (simp [pa_request, he22, pa_cl hf, he23]; done) | (clear hq; simp_all [pa_request]; done)))
  · skip
    replace hc1 := zb_0.mp hc1
    refine zx_iconst (nI 0) (q := 9) dd_Ab_request_8 rfl (by decide) ?_
    exact zx_zret dd_Ab_request_9 rfl (by decide) (by rw [zb_f]; exact hq _ _ (by first | (simp [pa_request, he22, hc1]; done) | (clear hq; simp_all [pa_request]; done)))
set_option maxRecDepth 100000 in
set_option maxHeartbeats 4000000 in
theorem ok_Ab_send {E : zxE} {b n : Nat} {H : Nat → zG} {D : zMd} {B : zB} {Q : Option Value → zxH → Nat → Prop} {x t g z : Int32} {se : Int64} (hw : B.2.2.2.1 ≤ 48) (hq : ∀ r B' H', pa_send B H x t g z se = (r, B', H') → Q (some (.int (zb r))) (zs b (B', hF H', D)) n) : zx_Ok E my_Ab_send mi_Ab_send [.ref b, .int x, .int t, .int g, .int z, .long se] (zs b (B, hF H, D)) n Q := by
  refine zx_start [some (.ref b), some (.int x), some (.int t), some (.int g), some (.int z), some (.long se), none] (by decide) rfl rfl (Nat.le_of_ble_eq_true rfl) rfl ?_
  refine zx_aload_n (q := 1) dd_Ab_send_0 rfl rfl ?_
  refine zx_iload_n (q := 2) dd_Ab_send_1 rfl rfl ?_
  refine zx_cV1i (q := 5) dd_Ab_send_2 rfl cv_Ab_send_30 ⟨rfl, rfl⟩ at_ab rfl rfl (Nat.le_of_ble_eq_true rfl) ⟨Nat.zero_le _, Nat.zero_le _⟩ (ok_Ab_isFunction fun r24 he24 => ⟨_, rfl, ?_⟩)
  refine zx_if_eq 21 (q := 8) dd_Ab_send_5 rfl (by decide) (fun hc1 => ?_) (fun hc1 => ?_)
  · skip
    replace hc1 := zb_0.mp hc1
    refine zx_iconst (nI 0) (q := 22) dd_Ab_send_21 rfl (by decide) ?_
    exact zx_zret dd_Ab_send_22 rfl (by decide) (by rw [zb_f]; exact hq _ _ _ (by first | (simp [pa_send, he24, hc1]; done) | (clear hq; simp_all [pa_send]; done)))
  · skip
    replace hc1 := zb_n0.mp hc1
    subst hc1
    obtain ⟨f, hf, rfl⟩ := pa_isF_n he24
    refine zx_aload_n (q := 9) dd_Ab_send_8 rfl rfl ?_
    refine zx_get (q := 12) dd_Ab_send_9 rfl fl_Ab_18 at_ab rfl ?_
    refine zx_iload_n (q := 13) dd_Ab_send_12 rfl rfl ?_
    refine zx_aald (q := 14) dd_Ab_send_13 rfl (fun _ => rfl) at_b5 rfl (by omega) (by decide) (fns_at (by omega)) ?_
    refine zx_iload_n (q := 15) dd_Ab_send_14 rfl rfl ?_
    refine zx_cV1i (q := 18) dd_Ab_send_15 rfl cv_Ab_send_74 ⟨rfl, rfl⟩ (ah_f0 hf) rfl rfl (Nat.le_of_ble_eq_true rfl) ⟨Nat.zero_le _, Nat.zero_le _⟩ (ah_can hf fun r25 he25 => ⟨_, rfl, ?_⟩)
    refine zx_if_ne 23 (q := 21) dd_Ab_send_18 rfl (by decide) (fun hc2 => ?_) (fun hc2 => ?_)
    · skip
      replace hc2 := zb_n0.mp hc2
      refine zx_iload_n (q := 24) dd_Ab_send_23 rfl rfl ?_
      refine zx_if_lt 47 (q := 27) dd_Ab_send_24 rfl (by decide) (fun hc3 => ?_) (fun hc3 => ?_)
      · skip
        refine zx_iconst (nI 0) (q := 48) dd_Ab_send_47 rfl (by decide) ?_
        exact zx_zret dd_Ab_send_48 rfl (by decide) (by rw [zb_f]; exact hq _ _ _ (by first | (simp [pa_send, he24, pa_cl hf, he25, hc2, hc3]; done) | (clear hq; simp_all [pa_send]; done)))
      · skip
        refine zx_iload_n (q := 28) dd_Ab_send_27 rfl rfl ?_
        refine zx_ldc _ (q := 30) dd_Ab_send_28 rfl kk_Ab_77 ?_
        refine zx_icmp_gt 47 (q := 33) dd_Ab_send_30 rfl (by decide) (fun hc4 => ?_) (fun hc4 => ?_)
        · skip
          refine zx_iconst (nI 0) (q := 48) dd_Ab_send_47 rfl (by decide) ?_
          exact zx_zret dd_Ab_send_48 rfl (by decide) (by rw [zb_f]; exact hq _ _ _ (by first | (simp [pa_send, he24, pa_cl hf, he25, hc2, hc3, hc4]; done) | (clear hq; simp_all [pa_send]; done)))
        · skip
          refine zx_iload (q := 35) dd_Ab_send_33 rfl rfl ?_
          refine zx_bipush (nI 9) (q := 37) dd_Ab_send_35 rfl (by decide) ?_
          refine zx_icmp_lt 47 (q := 40) dd_Ab_send_37 rfl (by decide) (fun hc5 => ?_) (fun hc5 => ?_)
          · skip
            refine zx_iconst (nI 0) (q := 48) dd_Ab_send_47 rfl (by decide) ?_
            exact zx_zret dd_Ab_send_48 rfl (by decide) (by rw [zb_f]; exact hq _ _ _ (by first | (simp [pa_send, he24, pa_cl hf, he25, hc2, hc3, hc4, hc5]; done) | (clear hq; simp_all [pa_send]; done)))
          · skip
            refine zx_iload (q := 42) dd_Ab_send_40 rfl rfl ?_
            refine zx_bipush (nI 49) (q := 44) dd_Ab_send_42 rfl (by decide) ?_
            refine zx_icmp_le 49 (q := 47) dd_Ab_send_44 rfl (by decide) (fun hc6 => ?_) (fun hc6 => ?_)
            · skip
              refine zx_aload_n (q := 50) dd_Ab_send_49 rfl rfl ?_
              refine zx_get (q := 53) dd_Ab_send_50 rfl fl_Ab_18 at_ab rfl ?_
              refine zx_iload_n (q := 54) dd_Ab_send_53 rfl rfl ?_
              refine zx_aald (q := 55) dd_Ab_send_54 rfl (fun _ => rfl) at_b5 rfl (by omega) (by decide) (fns_at (by omega)) ?_
              refine zx_get (q := 58) dd_Ab_send_55 rfl fl_Ab_78 (ah_f0 hf) rfl ?_
              refine zx_iload_n (q := 59) dd_Ab_send_58 rfl rfl ?_
              refine zx_iload_n (q := 60) dd_Ab_send_59 rfl rfl ?_
              refine zx_iload (q := 62) dd_Ab_send_60 rfl rfl ?_
              refine zx_lload (q := 64) dd_Ab_send_62 rfl rfl ?_
              refine zx_cV4v (q := 67) dd_Ab_send_64 rfl cv_Ab_send_82 ⟨rfl, rfl⟩ (ah_f6 hf) rfl rfl (Nat.le_of_ble_eq_true rfl) ⟨Nat.zero_le _, Nat.zero_le _⟩ (ah_begin hf hw fun B26 x26 he26 => ⟨rfl, ?_⟩)
              refine zx_iconst (nI 1) (q := 68) dd_Ab_send_67 rfl (by decide) ?_
              exact zx_zret dd_Ab_send_68 rfl (by decide) (by rw [zb_1]; exact hq _ _ _ (by first | (simp [pa_send, he24, pa_cl hf, he25, hc2, hc3, hc4, hc5, hc6, he26]; done) | (clear hq; simp_all [pa_send]; done)))
            · skip
              refine zx_iconst (nI 0) (q := 48) dd_Ab_send_47 rfl (by decide) ?_
              exact zx_zret dd_Ab_send_48 rfl (by decide) (by rw [zb_f]; exact hq _ _ _ (by first | (simp [pa_send, he24, pa_cl hf, he25, hc2, hc3, hc4, hc5, hc6]; done) | (clear hq; simp_all [pa_send]; done)))
    · skip
      replace hc2 := zb_0.mp hc2
      refine zx_iconst (nI 0) (q := 22) dd_Ab_send_21 rfl (by decide) ?_
      exact zx_zret dd_Ab_send_22 rfl (by decide) (by rw [zb_f]; exact hq _ _ _ (by first | (simp [pa_send, he24, pa_cl hf, he25, hc2]; done) | (clear hq; simp_all [pa_send]; done)))
