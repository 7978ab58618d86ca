def zi (G : zG) : Prop := G.2.2.2.1 ≤ 1 ∧ (∃ s : Nat, s < 256 ∧ pc_pk G.2.2.2.2.2.1.2.2.2.2.1 = nI s) ∧ G.2.2.2.2.2.2.1.2.2.2.1 < 100000 ∧ G.2.2.2.2.2.2.2.1.2.2.2.1 < 100000
theorem pa_reach_ge {s : Nat} {id : Int32} {d : Int64} {B : zB} {H : Nat → zG} : ∀ k g, k ≤ g → (pa_reach s id d k B H).2 g = H g
  | 0, _, _ => rfl
  | k + 1, g, h => by
    have ih := pa_reach_ge (s := s) (id := id) (d := d) (B := B) (H := H) k g (by omega)
    unfold pa_reach
    split
    rename_i B1 H1 he
    rw [he] at ih
    split
    · exact ih
    · show foc H1 k _ g = _
      rw [foc_ne _ _ (by omega)]
      exact ih
theorem pf_goOff_o (B : zB) (num : Int32) (G : zG) : (pf_goOff B num G).2.2.2.2.1 = G.2.2.2.1 := by
  obtain ⟨ad, bz, nt, o, la, ou, x0, x1, de, st, nm, hd⟩ := G
  unfold pf_goOff
  simp only
  split
  · rfl
  · split
    · rfl
    · split
      · rfl
      · split <;> rfl
set_option maxRecDepth 100000 in
set_option maxHeartbeats 4000000 in
theorem lo_Ab_deliver {E : zxE} {b n : Nat} {H : Nat → zG} {D : zMd} {Q : Option Value → zxH → Nat → Prop} {B0 : zB} {keep : Bool} {s : Nat} {id pl : Int32} {d : Int64} (hs5 : s < 5) (hZ : ∀ g < 5, zi (H g)) (hq : ∀ B' H', pa_reach s id d 5 B0 H = (B', H') → Q (some (.int (zb true))) (zs b (B', hF H', D)) n) : ∀ (k i : Nat) (B1 : zB) (H1 : Nat → zG), i + k = 5 → pa_reach s id d i B0 H = (B1, H1) → B1.2.2.2.1 ≤ 48 → zx_X E mi_Ab_deliver (zx_Y E mi_Ab_deliver Q) 61 [some (.ref b), some (.int (zb keep)), some (.int pl), some (.int (nI s)), some (.int id), some (.long d), none, some (.int (nI i))] [] (zs b (B1, hF H1, D)) n 0 0 := by
  intro k
  induction k with
  | zero =>
    intro i B1 H1 h2 he hw
    have h3 : i = 5 := by omega
    subst h3
    refine zx_iload (q := 63) dd_Ab_deliver_61 rfl rfl ?_
    refine zx_iconst (nI 5) (q := 64) dd_Ab_deliver_63 rfl (by decide) ?_
    refine zx_icmp_ge 94 (q := 67) dd_Ab_deliver_64 rfl (by decide) (fun hc1 => ?_) (fun hc1 => absurd (by decide) hc1)
    refine zx_iconst (nI 1) (q := 95) dd_Ab_deliver_94 rfl (by decide) ?_
    exact zx_zret dd_Ab_deliver_95 rfl (by decide) (by rw [zb_1]; exact hq _ _ he)
  | succ k ih =>
    intro i B1 H1 h2 he hw
    have hf : i < 5 := by omega
    have hz : zi (H1 i) := by
      have e := pa_reach_ge (s := s) (id := id) (d := d) (B := B0) (H := H) i i (Nat.le_refl _)
      rw [he] at e
      have e : H1 i = H i := e
      rw [e]
      exact hZ i hf
    obtain ⟨ho, hpk, hex0, hex1⟩ := hz
    refine zx_iload (q := 63) dd_Ab_deliver_61 rfl rfl ?_
    refine zx_iconst (nI 5) (q := 64) dd_Ab_deliver_63 rfl (by decide) ?_
    refine zx_icmp_ge 94 (q := 67) dd_Ab_deliver_64 rfl (by decide) (fun hc1 => absurd hc1 (fun z => absurd ((nI_leI (by decide) (by omega)).mp z) (by omega))) (fun hc1 => ?_)
    refine zx_iload (q := 69) dd_Ab_deliver_67 rfl rfl ?_
    refine zx_iload_n (q := 70) dd_Ab_deliver_69 rfl rfl ?_
    refine zx_icmp_eq 88 (q := 73) dd_Ab_deliver_70 rfl (by decide) (fun hc2 => ?_) (fun hc2 => ?_)
    · skip
      replace hc2 := eq_true ((nI_eq (a := i) (b := s) (by omega) (by omega)).mp hc2)
      refine zx_iincN_7 (q := 91) dd_Ab_deliver_88 rfl (by decide) rfl ?_
      refine zx_goto 61 dd_Ab_deliver_91 (by decide) ?_
      exact ih (i + 1) _ _ (by omega) (by simp [pa_reach, he, hc2]) hw
    · skip
      replace hc2 : ¬ i = s := fun z => hc2 (by rw [z])
      refine zx_aload_n (q := 74) dd_Ab_deliver_73 rfl rfl ?_
      refine zx_get (q := 77) dd_Ab_deliver_74 rfl fl_Ab_18 at_ab rfl ?_
      refine zx_iload (q := 79) dd_Ab_deliver_77 rfl rfl ?_
      refine zx_aald (q := 80) dd_Ab_deliver_79 rfl (fun _ => rfl) at_b5 rfl (by omega) (by decide) (fns_at (by omega)) ?_
      refine zx_iload_n (q := 81) dd_Ab_deliver_80 rfl rfl ?_
      refine zx_iload (q := 83) dd_Ab_deliver_81 rfl rfl ?_
      refine zx_lload (q := 85) dd_Ab_deliver_83 rfl rfl ?_
      refine zx_cV3v (q := 88) dd_Ab_deliver_85 rfl cv_Ab_deliver_108 ⟨rfl, rfl⟩ (ah_f0 hf) rfl rfl (Nat.le_of_ble_eq_true rfl) ⟨Nat.zero_le _, Nat.zero_le _⟩ (ah_reach hf ho hw hpk hex0 hex1 hs5 fun B1 G1 he1 hw1 => ⟨rfl, ?_⟩)
      refine zx_iincN_7 (q := 91) dd_Ab_deliver_88 rfl (by decide) rfl ?_
      refine zx_goto 61 dd_Ab_deliver_91 (by decide) ?_
      exact ih (i + 1) _ _ (by omega) (by simp [pa_reach, he, hc2, he1]) hw1
set_option maxRecDepth 100000 in
set_option maxHeartbeats 4000000 in
theorem ok_Ab_deliver {E : zxE} {b n : Nat} {H : Nat → zG} {D : zMd} {B : zB} {Q : Option Value → zxH → Nat → Prop} {keep : Bool} {s : Nat} (hw : B.2.2.2.1 ≤ 48) (hZ : ∀ g < 5, zi (H g)) (hs5 : s < 5) (hs : ¬ B.2.2.2.1 = 0 → B.2.2.1 (pc_least B.1 (B.2.2.2.1 - 1)) = nI s) (hq : ∀ r B' H', pa_deliver B H keep s = (r, B', H') → Q (some (.int (zb r))) (zs b (B', hF H', D)) n) : zx_Ok E my_Ab_deliver mi_Ab_deliver [.ref b, .int (zb keep)] (zs b (B, hF H, D)) n Q := by
  obtain ⟨ids, con, snd, cnt, ovf, now⟩ := B
  have hcn : cnt ≤ 48 := hw
  have hs : ¬ cnt = 0 → snd (pc_least ids (cnt - 1)) = nI s := hs
  refine zx_start [some (.ref b), some (.int (zb keep)), none, none, none, none, none, none] (by decide) rfl rfl (Nat.le_of_ble_eq_true rfl) rfl ?_
  refine zx_aload_n (q := 1) dd_Ab_deliver_0 rfl rfl ?_
  refine zx_get (q := 4) dd_Ab_deliver_1 rfl fl_Ab_12 at_ab rfl ?_
  refine zx_cV0i (q := 7) dd_Ab_deliver_4 rfl cv_Ab_deliver_91 ⟨rfl, rfl⟩ at_b1 rfl rfl (Nat.le_of_ble_eq_true rfl) ⟨Nat.zero_le _, Nat.zero_le _⟩ (ok_Bu_placeOfNext hw ⟨_, rfl, ?_⟩)
  refine zx_istore_2 (q := 8) dd_Ab_deliver_7 rfl (by decide) rfl ?_
  refine zx_iload_n (q := 9) dd_Ab_deliver_8 rfl rfl ?_
  refine zx_if_ge 14 (q := 12) dd_Ab_deliver_9 rfl (by decide) (fun hc1 => ?_) (fun hc1 => ?_)
  · skip
    replace hc1 := (pc_next_ge hcn).mp hc1
    have hlt : pc_least ids (cnt - 1) < cnt := by have := pc_least_le ids (cnt - 1); omega
    rw [show pc_next ids cnt = nI (pc_least ids (cnt - 1)) from if_neg hc1]
    have hs := hs hc1
    refine zx_aload_n (q := 15) dd_Ab_deliver_14 rfl rfl ?_
    refine zx_get (q := 18) dd_Ab_deliver_15 rfl fl_Ab_12 at_ab rfl ?_
    refine zx_get (q := 21) dd_Ab_deliver_18 rfl fl_Ab_102 at_b1 rfl ?_
    refine zx_iload_n (q := 22) dd_Ab_deliver_21 rfl rfl ?_
    refine zx_iald (q := 23) dd_Ab_deliver_22 rfl at_b4 rfl (by omega) (by decide) ?_
    refine zx_topi hs ?_
    refine zx_istore_3 (q := 24) dd_Ab_deliver_23 rfl (by decide) rfl ?_
    refine zx_aload_n (q := 25) dd_Ab_deliver_24 rfl rfl ?_
    refine zx_get (q := 28) dd_Ab_deliver_25 rfl fl_Ab_12 at_ab rfl ?_
    refine zx_get (q := 31) dd_Ab_deliver_28 rfl fl_Ab_95 at_b1 rfl ?_
    refine zx_iload_n (q := 32) dd_Ab_deliver_31 rfl rfl ?_
    refine zx_iald (q := 33) dd_Ab_deliver_32 rfl at_b2 rfl (by omega) (by decide) ?_
    refine zx_istore_4 (q := 35) dd_Ab_deliver_33 rfl (by decide) rfl ?_
    refine zx_aload_n (q := 36) dd_Ab_deliver_35 rfl rfl ?_
    refine zx_get (q := 39) dd_Ab_deliver_36 rfl fl_Ab_12 at_ab rfl ?_
    refine zx_get (q := 42) dd_Ab_deliver_39 rfl fl_Ab_98 at_b1 rfl ?_
    refine zx_iload_n (q := 43) dd_Ab_deliver_42 rfl rfl ?_
    refine zx_lald (q := 44) dd_Ab_deliver_43 rfl at_b3 rfl (by omega) (by decide) ?_
    refine zx_lstore_5 (q := 46) dd_Ab_deliver_44 rfl (by decide) rfl ?_
    refine zx_iload_n (q := 47) dd_Ab_deliver_46 rfl rfl ?_
    refine zx_if_ne 58 (q := 50) dd_Ab_deliver_47 rfl (by decide) (fun hc2 => ?_) (fun hc2 => ?_)
    · skip
      replace hc2 := zb_n0.mp hc2
      refine zx_iconst (nI 0) (q := 59) dd_Ab_deliver_58 rfl (by decide) ?_
      refine zx_istore_7 (q := 61) dd_Ab_deliver_59 rfl (by decide) rfl ?_
      exact lo_Ab_deliver hs5 hZ (fun B' H' h => hq _ _ _ (by simp [pa_deliver, hc1, hc2, h])) 5 0 _ _ (by omega) rfl hw
    · skip
      replace hc2 := zb_0.mp hc2
      refine zx_aload_n (q := 51) dd_Ab_deliver_50 rfl rfl ?_
      refine zx_get (q := 54) dd_Ab_deliver_51 rfl fl_Ab_12 at_ab rfl ?_
      refine zx_iload_n (q := 55) dd_Ab_deliver_54 rfl rfl ?_
      refine zx_cV1v (q := 58) dd_Ab_deliver_55 rfl cv_Ab_deliver_105 ⟨rfl, rfl⟩ at_b1 rfl rfl (Nat.le_of_ble_eq_true rfl) ⟨Nat.zero_le _, Nat.zero_le _⟩ (ok_Bu_takeAway hw hlt ⟨rfl, ?_⟩)
      refine zx_iconst (nI 0) (q := 59) dd_Ab_deliver_58 rfl (by decide) ?_
      refine zx_istore_7 (q := 61) dd_Ab_deliver_59 rfl (by decide) rfl ?_
      exact lo_Ab_deliver hs5 hZ (fun B' H' h => hq _ _ _ (by simp [pa_deliver, hc1, hc2, h])) 5 0 _ _ (by omega) rfl (by show cnt - 1 ≤ 48; omega)
  · skip
    replace hc1 : cnt = 0 := Decidable.byContradiction fun z => hc1 ((pc_next_ge hcn).mpr z)
    refine zx_iconst (nI 0) (q := 13) dd_Ab_deliver_12 rfl (by decide) ?_
    exact zx_zret dd_Ab_deliver_13 rfl (by decide) (by rw [zb_f]; exact hq _ _ _ (by first | (simp [pa_deliver, hc1]; done) | (clear hq; simp_all [pa_deliver]; done)))
set_option maxRecDepth 100000 in
set_option maxHeartbeats 4000000 in
theorem lo_Ab_firstDue {E : zxE} {b n : Nat} {H : Nat → zG} {D : zMd} {B : zB} {Q : Option Value → zxH → Nat → Prop} (hI : ∀ g < 5, (H g).2.2.2.1 ≤ 1) (hq : Q (some (.int (nI (pa_first H 4)))) (zs b (B, hF H, D)) n) : ∀ k i : Nat, 1 ≤ i → i + k = 5 → zx_X E mi_Ab_firstDue (zx_Y E mi_Ab_firstDue Q) 4 [some (.ref b), some (.int (nI (pa_first H (i - 1)))), some (.int (nI i))] [] (zs b (B, hF H, D)) n 0 0 := by
  intro k
  induction k with
  | zero =>
    intro i h1 h2
    have h3 : i = 5 := by omega
    subst h3
    refine zx_iload_n (q := 5) dd_Ab_firstDue_4 rfl rfl ?_
    refine zx_iconst (nI 5) (q := 6) dd_Ab_firstDue_5 rfl (by decide) ?_
    refine zx_icmp_ge 39 (q := 9) dd_Ab_firstDue_6 rfl (by decide) (fun hc1 => ?_) (fun hc1 => absurd (by decide) hc1)
    refine zx_iload_n (q := 40) dd_Ab_firstDue_39 rfl rfl ?_
    exact zx_iret dd_Ab_firstDue_40 rfl hq
  | succ k ih =>
    intro i h1 h2
    have hf : i < 5 := by omega
    have hl := pa_first_le H (i - 1)
    have hf2 : pa_first H (i - 1) < 5 := by omega
    have hst : pa_first H i = if pf_nextDue (H i) < pf_nextDue (H (pa_first H (i - 1))) then i else pa_first H (i - 1) := by
      obtain ⟨j, rfl⟩ : ∃ j, i = j + 1 := ⟨i - 1, by omega⟩
      rfl
    have ih := ih (i + 1) (by omega) (by omega)
    rw [Nat.add_sub_cancel, hst] at ih
    refine zx_iload_n (q := 5) dd_Ab_firstDue_4 rfl rfl ?_
    refine zx_iconst (nI 5) (q := 6) dd_Ab_firstDue_5 rfl (by decide) ?_
    refine zx_icmp_ge 39 (q := 9) dd_Ab_firstDue_6 rfl (by decide) (fun hc1 => absurd hc1 (fun z => absurd ((nI_leI (by decide) (by omega)).mp z) (by omega))) (fun hc1 => ?_)
    refine zx_aload_n (q := 10) dd_Ab_firstDue_9 rfl rfl ?_
    refine zx_get (q := 13) dd_Ab_firstDue_10 rfl fl_Ab_18 at_ab rfl ?_
    refine zx_iload_n (q := 14) dd_Ab_firstDue_13 rfl rfl ?_
    refine zx_aald (q := 15) dd_Ab_firstDue_14 rfl (fun _ => rfl) at_b5 rfl (by omega) (by decide) (fns_at (by omega)) ?_
    refine zx_cV0l (q := 18) dd_Ab_firstDue_15 rfl cv_Ab_firstDue_122 ⟨rfl, rfl⟩ (ah_f0 hf) rfl rfl (Nat.le_of_ble_eq_true rfl) ⟨Nat.zero_le _, Nat.zero_le _⟩ (ah_nextDue hf (hI _ hf) fun r2 he2 => ⟨_, rfl, ?_⟩)
    subst he2
    refine zx_aload_n (q := 19) dd_Ab_firstDue_18 rfl rfl ?_
    refine zx_get (q := 22) dd_Ab_firstDue_19 rfl fl_Ab_18 at_ab rfl ?_
    refine zx_iload_n (q := 23) dd_Ab_firstDue_22 rfl rfl ?_
    refine zx_aald (q := 24) dd_Ab_firstDue_23 rfl (fun _ => rfl) at_b5 rfl hf2 (by decide) (fns_at hf2) ?_
    refine zx_cV0l (q := 27) dd_Ab_firstDue_24 rfl cv_Ab_firstDue_122 ⟨rfl, rfl⟩ (ah_f0 hf2) rfl rfl (Nat.le_of_ble_eq_true rfl) ⟨Nat.zero_le _, Nat.zero_le _⟩ (ah_nextDue hf2 (hI _ hf2) fun r3 he3 => ⟨_, rfl, ?_⟩)
    subst he3
    refine zx_lcmp (q := 28) dd_Ab_firstDue_27 rfl ?_
    refine zx_if_ge 33 (q := 31) dd_Ab_firstDue_28 rfl (by decide) (fun hc2 => ?_) (fun hc2 => ?_)
    · skip
      replace hc2 := lcmp_ge.mp hc2
      refine zx_iincN_2 (q := 36) dd_Ab_firstDue_33 rfl (by decide) rfl ?_
      refine zx_goto 4 dd_Ab_firstDue_36 (by decide) ?_
      first | (rw [if_pos hc2] at ih; exact ih) | (rw [if_neg hc2] at ih; exact ih)
    · skip
      replace hc2 := lcmp_nge.mp hc2
      refine zx_iload_n (q := 32) dd_Ab_firstDue_31 rfl rfl ?_
      refine zx_istore_1 (q := 33) dd_Ab_firstDue_32 rfl (by decide) rfl ?_
      refine zx_iincN_2 (q := 36) dd_Ab_firstDue_33 rfl (by decide) rfl ?_
      refine zx_goto 4 dd_Ab_firstDue_36 (by decide) ?_
      first | (rw [if_pos hc2] at ih; exact ih) | (rw [if_neg hc2] at ih; exact ih)
set_option maxRecDepth 100000 in
set_option maxHeartbeats 4000000 in
theorem ok_Ab_firstDue {E : zxE} {b n : Nat} {H : Nat → zG} {D : zMd} {B : zB} {Q : Option Value → zxH → Nat → Prop} (hI : ∀ g < 5, (H g).2.2.2.1 ≤ 1) (hq : Q (some (.int (nI (pa_first H 4)))) (zs b (B, hF H, D)) n) : zx_Ok E my_Ab_firstDue mi_Ab_firstDue [.ref b] (zs b (B, hF H, D)) n Q := by
  refine zx_start [some (.ref b), none, none] (by decide) rfl rfl (Nat.le_of_ble_eq_true rfl) rfl ?_
  refine zx_iconst (nI 0) (q := 1) dd_Ab_firstDue_0 rfl (by decide) ?_
  refine zx_istore_1 (q := 2) dd_Ab_firstDue_1 rfl (by decide) rfl ?_
  refine zx_iconst (nI 1) (q := 3) dd_Ab_firstDue_2 rfl (by decide) ?_
  refine zx_istore_2 (q := 4) dd_Ab_firstDue_3 rfl (by decide) rfl ?_
  exact lo_Ab_firstDue hI hq 4 1 (by omega) (by omega)
set_option maxRecDepth 100000 in
set_option maxHeartbeats 4000000 in
theorem lo_Ab_tick {E : zxE} {b n : Nat} {D : zMd} {Q : Option Value → zxH → Nat → Prop} {ms : Int32} {e : Int64} : ∀ (k c : Nat) (B : zB) (H : Nat → zG), c + k = 1000 → B.2.2.2.1 ≤ 48 → (∀ g < 5, (H g).2.2.2.1 ≤ 1) → (∀ c' B' H', pa_offs e k c B H = (c', B', H') → Q (some (.int (nI c'))) (zs b (pa_setNow B' e, hF H', D)) n) → zx_X E mi_Ab_tick (zx_Y E mi_Ab_tick Q) 28 [some (.ref b), some (.int ms), some (.long e), none, some (.int (nI c)), none, none, none] [] (zs b (B, hF H, D)) n 0 0 := by
  intro k
  induction k with
  | zero =>
    intro c B H h2 hw hI hq
    have h3 : c = 1000 := by omega
    subst h3
    have hq := hq _ _ _ rfl
    obtain ⟨ids, con, snd, cnt, ovf, now⟩ := B
    refine zx_iload (q := 30) dd_Ab_tick_28 rfl rfl ?_
    refine zx_sipush (nI 1000) (q := 33) dd_Ab_tick_30 rfl (by decide) ?_
    refine zx_icmp_ge 89 (q := 36) dd_Ab_tick_33 rfl (by decide) (fun hc1 => ?_) (fun hc1 => absurd (by decide) hc1)
    refine zx_aload_n (q := 90) dd_Ab_tick_89 rfl rfl ?_
    refine zx_get (q := 93) dd_Ab_tick_90 rfl fl_Ab_12 at_ab rfl ?_
    refine zx_lload_n (q := 94) dd_Ab_tick_93 rfl rfl ?_
    refine zx_put (q := 97) dd_Ab_tick_94 rfl fl_Ab_115 at_b1 rfl rfl (Nat.le_of_ble_eq_true rfl) up_b1 ?_
    refine zx_iload (q := 99) dd_Ab_tick_97 rfl rfl ?_
    exact zx_iret dd_Ab_tick_99 rfl hq
  | succ k ih =>
    intro c B H h2 hw hI hq
    have hl := pa_first_le H 4
    have hf : pa_first H 4 < 5 := by omega
    obtain ⟨ids, con, snd, cnt, ovf, now⟩ := B
    refine zx_iload (q := 30) dd_Ab_tick_28 rfl rfl ?_
    refine zx_sipush (nI 1000) (q := 33) dd_Ab_tick_30 rfl (by decide) ?_
    refine zx_icmp_ge 89 (q := 36) dd_Ab_tick_33 rfl (by decide) (fun hc1 => absurd hc1 (fun z => absurd ((nI_leI (by decide) (by omega)).mp z) (by omega))) (fun hc1 => ?_)
    refine zx_aload_n (q := 37) dd_Ab_tick_36 rfl rfl ?_
    refine zx_cV0i (q := 40) dd_Ab_tick_37 rfl cv_Ab_tick_119 ⟨rfl, rfl⟩ at_ab rfl rfl (Nat.le_of_ble_eq_true rfl) ⟨Nat.zero_le _, Nat.zero_le _⟩ (ok_Ab_firstDue hI ⟨_, rfl, ?_⟩)
    refine zx_istore_5 (q := 42) dd_Ab_tick_40 rfl (by decide) rfl ?_
    refine zx_aload_n (q := 43) dd_Ab_tick_42 rfl rfl ?_
    refine zx_get (q := 46) dd_Ab_tick_43 rfl fl_Ab_18 at_ab rfl ?_
    refine zx_iload (q := 48) dd_Ab_tick_46 rfl rfl ?_
    refine zx_aald (q := 49) dd_Ab_tick_48 rfl (fun _ => rfl) at_b5 rfl (by omega) (by decide) (fns_at (by omega)) ?_
    refine zx_cV0l (q := 52) dd_Ab_tick_49 rfl cv_Ab_tick_122 ⟨rfl, rfl⟩ (ah_f0 hf) rfl rfl (Nat.le_of_ble_eq_true rfl) ⟨Nat.zero_le _, Nat.zero_le _⟩ (ah_nextDue hf (hI _ hf) fun r4 he4 => ⟨_, rfl, ?_⟩)
    subst he4
    refine zx_lstore_6 (q := 54) dd_Ab_tick_52 rfl (by decide) rfl ?_
    refine zx_lload (q := 56) dd_Ab_tick_54 rfl rfl ?_
    refine zx_lload_n (q := 57) dd_Ab_tick_56 rfl rfl ?_
    refine zx_lcmp (q := 58) dd_Ab_tick_57 rfl ?_
    refine zx_if_le 64 (q := 61) dd_Ab_tick_58 rfl (by decide) (fun hc2 => ?_) (fun hc2 => ?_)
    · skip
      replace hc2 := lcmp_le.mp hc2
      refine zx_aload_n (q := 65) dd_Ab_tick_64 rfl rfl ?_
      refine zx_get (q := 68) dd_Ab_tick_65 rfl fl_Ab_12 at_ab rfl ?_
      refine zx_lload (q := 70) dd_Ab_tick_68 rfl rfl ?_
      refine zx_put (q := 73) dd_Ab_tick_70 rfl fl_Ab_115 at_b1 rfl rfl (Nat.le_of_ble_eq_true rfl) up_b1 ?_
      refine zx_aload_n (q := 74) dd_Ab_tick_73 rfl rfl ?_
      refine zx_get (q := 77) dd_Ab_tick_74 rfl fl_Ab_18 at_ab rfl ?_
      refine zx_iload (q := 79) dd_Ab_tick_77 rfl rfl ?_
      refine zx_aald (q := 80) dd_Ab_tick_79 rfl (fun _ => rfl) at_b5 rfl (by omega) (by decide) (fns_at (by omega)) ?_
      refine zx_cV0v (q := 83) dd_Ab_tick_80 rfl cv_Ab_tick_126 ⟨rfl, rfl⟩ (ah_f0 hf) rfl rfl (Nat.le_of_ble_eq_true rfl) ⟨Nat.zero_le _, Nat.zero_le _⟩ (ah_goOff hf (hI _ hf) hw fun B1 G1 he1 hw1 => ⟨rfl, ?_⟩)
      refine zx_iincN_4 (q := 86) dd_Ab_tick_83 rfl (by decide) rfl ?_
      refine zx_goto 28 dd_Ab_tick_86 (by decide) ?_
      refine zx_fg (zx_fgp [_, _, _, _, _] _ 3) ?_
      refine ih (c + 1) B1 _ (by omega) hw1 (fun g hg => ?_) (fun c' B' H' h => hq c' B' H' (by simp [pa_offs, pa_setNow, hc2, he1, h]))
      by_cases hgf : g = pa_first H 4
      · subst hgf
        rw [foc_at]
        have z := pf_goOff_o (ids, con, snd, cnt, ovf, pf_nextDue (H (pa_first H 4))) (nI (pa_first H 4)) (H (pa_first H 4))
        rw [he1] at z
        have z : G1.2.2.2.1 = _ := z
        rw [z]
        exact hI _ hf
      · rw [foc_ne _ _ hgf]
        exact hI g hg
    · skip
      replace hc2 := lcmp_nle.mp hc2
      refine zx_goto 89 dd_Ab_tick_61 (by decide) ?_
      refine zx_aload_n (q := 90) dd_Ab_tick_89 rfl rfl ?_
      refine zx_get (q := 93) dd_Ab_tick_90 rfl fl_Ab_12 at_ab rfl ?_
      refine zx_lload_n (q := 94) dd_Ab_tick_93 rfl rfl ?_
      refine zx_put (q := 97) dd_Ab_tick_94 rfl fl_Ab_115 at_b1 rfl rfl (Nat.le_of_ble_eq_true rfl) up_b1 ?_
      refine zx_iload (q := 99) dd_Ab_tick_97 rfl rfl ?_
      exact zx_iret dd_Ab_tick_99 rfl (hq c (ids, con, snd, cnt, ovf, now) H (by simp [pa_offs, hc2]))
set_option maxRecDepth 100000 in
set_option maxHeartbeats 4000000 in
theorem ok_Ab_tick {E : zxE} {b n : Nat} {H : Nat → zG} {D : zMd} {B : zB} {Q : Option Value → zxH → Nat → Prop} {ms : Int32} (hw : B.2.2.2.1 ≤ 48) (hI : ∀ g < 5, (H g).2.2.2.1 ≤ 1) (hq : ∀ r B' H', pa_tick B H ms = (r, B', H') → Q (some (.int r)) (zs b (B', hF H', D)) n) : zx_Ok E my_Ab_tick mi_Ab_tick [.ref b, .int ms] (zs b (B, hF H, D)) n Q := by
  obtain ⟨ids, con, snd, cnt, ovf, now⟩ := B
  refine zx_start [some (.ref b), some (.int ms), none, none, none, none, none, none] (by decide) rfl rfl (Nat.le_of_ble_eq_true rfl) rfl ?_
  refine zx_iload_n (q := 1) dd_Ab_tick_0 rfl rfl ?_
  refine zx_iconst (nI 1) (q := 2) dd_Ab_tick_1 rfl (by decide) ?_
  refine zx_icmp_lt 12 (q := 5) dd_Ab_tick_2 rfl (by decide) (fun hc1 => ?_) (fun hc1 => ?_)
  · skip
    refine zx_iconst (-1) (q := 13) dd_Ab_tick_12 rfl (by decide) ?_
    exact zx_iret dd_Ab_tick_13 rfl (hq _ _ _ (by simp [pa_tick, hc1]))
  · skip
    refine zx_iload_n (q := 6) dd_Ab_tick_5 rfl rfl ?_
    refine zx_sipush (nI 2000) (q := 9) dd_Ab_tick_6 rfl (by decide) ?_
    refine zx_icmp_le 14 (q := 12) dd_Ab_tick_9 rfl (by decide) (fun hc2 => ?_) (fun hc2 => ?_)
    · skip
      refine zx_aload_n (q := 15) dd_Ab_tick_14 rfl rfl ?_
      refine zx_get (q := 18) dd_Ab_tick_15 rfl fl_Ab_12 at_ab rfl ?_
      refine zx_get (q := 21) dd_Ab_tick_18 rfl fl_Ab_115 at_b1 rfl ?_
      refine zx_iload_n (q := 22) dd_Ab_tick_21 rfl rfl ?_
      refine zx_i2l (q := 23) dd_Ab_tick_22 rfl ?_
      refine zx_ladd (q := 24) dd_Ab_tick_23 rfl ?_
      refine zx_lstore_2 (q := 25) dd_Ab_tick_24 rfl (by decide) rfl ?_
      refine zx_iconst (nI 0) (q := 26) dd_Ab_tick_25 rfl (by decide) ?_
      refine zx_istore_4 (q := 28) dd_Ab_tick_26 rfl (by decide) rfl ?_
      exact lo_Ab_tick 1000 0 _ _ (by omega) hw hI (fun c' B' H' h => hq _ _ _ (by simp [pa_tick, hc1, hc2, h]))
    · skip
      refine zx_iconst (-1) (q := 13) dd_Ab_tick_12 rfl (by decide) ?_
      exact zx_iret dd_Ab_tick_13 rfl (hq _ _ _ (by simp [pa_tick, hc1, hc2]))
