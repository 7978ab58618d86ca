set_option maxRecDepth 100000 in
set_option maxHeartbeats 4000000 in
theorem ok_Ms_keep {E : zxE} {b f n : Nat} {F : Nat → zFn} {D : zMd} {B : zB} {ad : Int32} {bz : Bool} {nt : Nat → Int32} {o : Nat} {la : zMs} {ou : zOu} {p : Nat} {x : zIn} {xs : Nat → zIn} {de st : Int32} {nm hd : Int64} {Q : Option Value → zxH → Nat → Prop} {k : Nat} {d : Int64} (hf : f < 5) (hp : p < 2) (hk : k < 100000) (hq : ∀ m, pc_mkeep x.1 k d = m → Q none (zs b (B, foc F f (ad, bz, nt, o, la, ou, foc xs p (m, x.2), de, st, nm, hd), D)) n) : zx_Ok E my_Ms_keep mi_Ms_keep [.ref (fa b f (8 + 3 * p)), .int (nI k), .long d] (zs b (B, foc F f (ad, bz, nt, o, la, ou, foc xs p x, de, st, nm, hd), D)) n Q := by
  obtain ⟨⟨pk, so, gr, si, ta⟩, op, he, ex, lt, ak, du⟩ := x
  refine zx_start [some (.ref (fa b f (8 + 3 * p))), some (.int (nI k)), some (.long d), none] (by decide) rfl rfl (Nat.le_of_ble_eq_true rfl) rfl ?_
  refine zx_iload_n (q := 1) dd_Ms_keep_0 rfl rfl ?_
  refine zx_iconst (nI 1) (q := 2) dd_Ms_keep_1 rfl (by decide) ?_
  refine zx_icmp_lt 20 (q := 5) dd_Ms_keep_2 rfl (by decide) (fun hc1 => ?_) (fun hc1 => ?_)
  · skip
    replace hc1 : ¬ 1 ≤ k := fun z => absurd ((nI_ltI (by omega) (by decide)).mp hc1) (by omega)
    exact zx_vret dd_Ms_keep_20 rfl (hq _ (by first | (simp [pc_mkeep, hc1]; done) | (clear hq; simp_all [pc_mkeep]; done)))
  · skip
    replace hc1 : 1 ≤ k := Nat.le_of_not_lt fun z => hc1 ((nI_ltI (by omega) (by decide)).mpr z)
    refine zx_iload_n (q := 6) dd_Ms_keep_5 rfl rfl ?_
    refine zx_bipush (nI 7) (q := 8) dd_Ms_keep_6 rfl (by decide) ?_
    refine zx_icmp_gt 20 (q := 11) dd_Ms_keep_8 rfl (by decide) (fun hc2 => ?_) (fun hc2 => ?_)
    · skip
      replace hc2 : ¬ k ≤ 7 := fun z => absurd ((nI_ltI (by decide) (by omega)).mp hc2) (by omega)
      exact zx_vret dd_Ms_keep_20 rfl (hq _ (by first | (simp [pc_mkeep, hc1, hc2]; done) | (clear hq; simp_all [pc_mkeep]; done)))
    · skip
      replace hc2 : k ≤ 7 := Nat.le_of_not_lt fun z => hc2 ((nI_ltI (by decide) (by omega)).mpr z)
      refine zx_aload_n (q := 12) dd_Ms_keep_11 rfl rfl ?_
      refine zx_get (q := 15) dd_Ms_keep_12 rfl fl_Ms_9 (at_i8 hf hp) rfl ?_
      refine zx_iload_n (q := 16) dd_Ms_keep_15 rfl rfl ?_
      refine zx_iconst (nI 1) (q := 17) dd_Ms_keep_16 rfl (by decide) ?_
      refine zx_isub (q := 18) dd_Ms_keep_17 rfl ?_
      refine zx_topi (pk_sub (by omega)) ?_
      refine zx_lload_n (q := 19) dd_Ms_keep_18 rfl rfl ?_
      refine zx_last (q := 20) dd_Ms_keep_19 rfl (at_i9 hf hp) rfl (by omega) (by decide) (up_i9 hf hp) ?_
      exact zx_vret dd_Ms_keep_20 rfl (hq _ (by first | (simp [pc_mkeep, hc1, hc2]; done) | (clear hq; simp_all [pc_mkeep]; done)))
set_option maxRecDepth 100000 in
set_option maxHeartbeats 4000000 in
theorem lo_Ms_copy {E : zxE} {b f n p : Nat} {F : Nat → zFn} {D : zMd} {B : zB} {ad : Int32} {bz : Bool} {nt : Nat → Int32} {o : Nat} {ou : zOu} {xs : Nat → zIn} {de st : Int32} {nm hd : Int64} {Q : Option Value → zxH → Nat → Prop} {pk p1 : Nat → Int64} {so gr si lt ak : Int32} {ta op he : Bool} {ex : Nat} {du : Int64} (hf : f < 5) (hp : p < 2) (hq : Q none (zs b (B, foc F f (ad, bz, nt, o, (pc_over p1 pk 7, so, gr, si, ta), ou, foc xs p ((pk, so, gr, si, ta), op, he, ex, lt, ak, du), de, st, nm, hd), D)) n) : ∀ k i : Nat, i + k = 7 → zx_X E mi_Ms_copy (zx_Y E mi_Ms_copy Q) 34 [some (.ref (fa b f 4)), some (.ref (fa b f (8 + 3 * p))), some (.int (nI i))] [] (zs b (B, foc F f (ad, bz, nt, o, (pc_over p1 pk i, so, gr, si, ta), ou, foc xs p ((pk, so, gr, si, ta), op, he, ex, lt, ak, du), de, st, nm, hd), D)) n 0 0 := by
  intro k
  induction k with
  | zero =>
    intro i h2
    have h3 : i = 7 := by omega
    subst h3
    refine zx_iload_n (q := 35) dd_Ms_copy_34 rfl rfl ?_
    refine zx_bipush (nI 7) (q := 37) dd_Ms_copy_35 rfl (by decide) ?_
    refine zx_icmp_ge 58 (q := 40) dd_Ms_copy_37 rfl (by decide) (fun hc1 => ?_) (fun hc1 => absurd (by decide) hc1)
    exact zx_vret dd_Ms_copy_58 rfl hq
  | succ k ih =>
    intro i h2
    have ih := ih (i + 1) (by omega)
    refine zx_iload_n (q := 35) dd_Ms_copy_34 rfl rfl ?_
    refine zx_bipush (nI 7) (q := 37) dd_Ms_copy_35 rfl (by decide) ?_
    refine zx_icmp_ge 58 (q := 40) dd_Ms_copy_37 rfl (by decide) (fun hc1 => absurd hc1 (fun z => absurd ((nI_leI (by decide) (by omega)).mp z) (by omega))) (fun hc1 => ?_)
    refine zx_aload_n (q := 41) dd_Ms_copy_40 rfl rfl ?_
    refine zx_get (q := 44) dd_Ms_copy_41 rfl fl_Ms_9 (at_f4 hf) rfl ?_
    refine zx_iload_n (q := 45) dd_Ms_copy_44 rfl rfl ?_
    refine zx_aload_n (q := 46) dd_Ms_copy_45 rfl rfl ?_
    refine zx_get (q := 49) dd_Ms_copy_46 rfl fl_Ms_9 (at_i8 hf hp) rfl ?_
    refine zx_iload_n (q := 50) dd_Ms_copy_49 rfl rfl ?_
    refine zx_lald (q := 51) dd_Ms_copy_50 rfl (at_i9 hf hp) rfl (by omega) (by decide) ?_
    refine zx_last (q := 52) dd_Ms_copy_51 rfl (at_f5 hf) rfl (by omega) (by decide) (up_f5 hf) ?_
    refine zx_iincN_2 (q := 55) dd_Ms_copy_52 rfl (by decide) rfl ?_
    refine zx_goto 34 dd_Ms_copy_55 (by decide) ?_
    rw [pc_over_s]
    exact ih
set_option maxRecDepth 100000 in
set_option maxHeartbeats 4000000 in
theorem ok_Ms_copy {E : zxE} {b f n : Nat} {F : Nat → zFn} {D : zMd} {B : zB} {ad : Int32} {bz : Bool} {nt : Nat → Int32} {o : Nat} {la : zMs} {ou : zOu} {p : Nat} {x : zIn} {xs : Nat → zIn} {de st : Int32} {nm hd : Int64} {Q : Option Value → zxH → Nat → Prop} (hf : f < 5) (hp : p < 2) (hq : Q none (zs b (B, foc F f (ad, bz, nt, o, pc_copy la x.1, ou, foc xs p x, de, st, nm, hd), D)) n) : zx_Ok E my_Ms_copy mi_Ms_copy [.ref (fa b f 4), .ref (fa b f (8 + 3 * p))] (zs b (B, foc F f (ad, bz, nt, o, la, ou, foc xs p x, de, st, nm, hd), D)) n Q := by
  obtain ⟨⟨pk, so, gr, si, ta⟩, op, he, ex, lt, ak, du⟩ := x
  obtain ⟨p1, so1, gr1, si1, ta1⟩ := la
  refine zx_start [some (.ref (fa b f 4)), some (.ref (fa b f (8 + 3 * p))), none] (by decide) rfl rfl (Nat.le_of_ble_eq_true rfl) rfl ?_
  refine zx_aload_n (q := 1) dd_Ms_copy_0 rfl rfl ?_
  refine zx_aload_n (q := 2) dd_Ms_copy_1 rfl rfl ?_
  refine zx_get (q := 5) dd_Ms_copy_2 rfl fl_Ms_15 (at_i8 hf hp) rfl ?_
  refine zx_put (q := 8) dd_Ms_copy_5 rfl fl_Ms_15 (at_f4 hf) rfl rfl (Nat.le_of_ble_eq_true rfl) (up_f4 hf) ?_
  refine zx_aload_n (q := 9) dd_Ms_copy_8 rfl rfl ?_
  refine zx_aload_n (q := 10) dd_Ms_copy_9 rfl rfl ?_
  refine zx_get (q := 13) dd_Ms_copy_10 rfl fl_Ms_19 (at_i8 hf hp) rfl ?_
  refine zx_put (q := 16) dd_Ms_copy_13 rfl fl_Ms_19 (at_f4 hf) rfl rfl (Nat.le_of_ble_eq_true rfl) (up_f4 hf) ?_
  refine zx_aload_n (q := 17) dd_Ms_copy_16 rfl rfl ?_
  refine zx_aload_n (q := 18) dd_Ms_copy_17 rfl rfl ?_
  refine zx_get (q := 21) dd_Ms_copy_18 rfl fl_Ms_22 (at_i8 hf hp) rfl ?_
  refine zx_put (q := 24) dd_Ms_copy_21 rfl fl_Ms_22 (at_f4 hf) rfl rfl (Nat.le_of_ble_eq_true rfl) (up_f4 hf) ?_
  refine zx_aload_n (q := 25) dd_Ms_copy_24 rfl rfl ?_
  refine zx_aload_n (q := 26) dd_Ms_copy_25 rfl rfl ?_
  refine zx_get (q := 29) dd_Ms_copy_26 rfl fl_Ms_25 (at_i8 hf hp) rfl ?_
  refine zx_put (q := 32) dd_Ms_copy_29 rfl fl_Ms_25 (at_f4 hf) zb_nar zb_fit (Nat.le_of_ble_eq_true rfl) (up_f4 hf) ?_
  refine zx_iconst (nI 0) (q := 33) dd_Ms_copy_32 rfl (by decide) ?_
  refine zx_istore_2 (q := 34) dd_Ms_copy_33 rfl (by decide) rfl ?_
  have hx := lo_Ms_copy (E := E) (b := b) (n := n) (F := F) (D := D) (B := B) (ad := ad) (bz := bz) (nt := nt) (o := o) (ou := ou) (xs := xs) (de := de) (st := st) (nm := nm) (hd := hd) (p1 := p1) (op := op) (he := he) (ex := ex) (lt := lt) (ak := ak) (du := du) (Q := Q) hf hp hq 7 0 (by omega)
  rw [pc_over_0] at hx
  exact hx
set_option maxRecDepth 100000 in
set_option maxHeartbeats 4000000 in
theorem ok_Ms_byteAt {E : zxE} {b f n : Nat} {F : Nat → zFn} {D : zMd} {B : zB} {ad : Int32} {bz : Bool} {nt : Nat → Int32} {o : Nat} {la : zMs} {ou : zOu} {xs : Nat → zIn} {de st : Int32} {nm hd : Int64} {Q : Option Value → zxH → Nat → Prop} {i : Int32} (hf : f < 5) (hq : ∀ r, pc_byteAt la i = r → Q (some (.int r)) (zs b (B, foc F f (ad, bz, nt, o, la, ou, xs, de, st, nm, hd), D)) n) : zx_Ok E my_Ms_byteAt mi_Ms_byteAt [.ref (fa b f 4), .int i] (zs b (B, foc F f (ad, bz, nt, o, la, ou, xs, de, st, nm, hd), D)) n Q := by
  obtain ⟨pk, so, gr, si, ta⟩ := la
  refine zx_start [some (.ref (fa b f 4)), some (.int i)] (by decide) rfl rfl (Nat.le_of_ble_eq_true rfl) rfl ?_
  refine zx_iload_n (q := 1) dd_Ms_byteAt_0 rfl rfl ?_
  refine zx_if_lt 18 (q := 4) dd_Ms_byteAt_1 rfl (by decide) (fun hc1 => ?_) (fun hc1 => ?_)
  · skip
    refine zx_iconst (-1) (q := 19) dd_Ms_byteAt_18 rfl (by decide) ?_
    exact zx_iret dd_Ms_byteAt_19 rfl (hq _ (by first | (simp [pc_byteAt, hc1]; done) | (clear hq; simp_all [pc_byteAt]; done)))
  · skip
    obtain ⟨j, hj, rfl⟩ := nI_of hc1
    refine zx_iload_n (q := 5) dd_Ms_byteAt_4 rfl rfl ?_
    refine zx_aload_n (q := 6) dd_Ms_byteAt_5 rfl rfl ?_
    refine zx_get (q := 9) dd_Ms_byteAt_6 rfl fl_Ms_22 (at_f4 hf) rfl ?_
    refine zx_icmp_ge 18 (q := 12) dd_Ms_byteAt_9 rfl (by decide) (fun hc2 => ?_) (fun hc2 => ?_)
    · skip
      refine zx_iconst (-1) (q := 19) dd_Ms_byteAt_18 rfl (by decide) ?_
      exact zx_iret dd_Ms_byteAt_19 rfl (hq _ (by first | (simp [pc_byteAt, hc1, hc2]; done) | (clear hq; simp_all [pc_byteAt]; done)))
    · skip
      refine zx_iload_n (q := 13) dd_Ms_byteAt_12 rfl rfl ?_
      refine zx_bipush (nI 49) (q := 15) dd_Ms_byteAt_13 rfl (by decide) ?_
      refine zx_icmp_lt 20 (q := 18) dd_Ms_byteAt_15 rfl (by decide) (fun hc3 => ?_) (fun hc3 => ?_)
      · skip
        refine zx_aload_n (q := 21) dd_Ms_byteAt_20 rfl rfl ?_
        refine zx_get (q := 24) dd_Ms_byteAt_21 rfl fl_Ms_9 (at_f4 hf) rfl ?_
        refine zx_iload_n (q := 25) dd_Ms_byteAt_24 rfl rfl ?_
        refine zx_bipush (nI 7) (q := 27) dd_Ms_byteAt_25 rfl (by decide) ?_
        refine zx_idiv (q := 28) dd_Ms_byteAt_27 rfl (by decide) ?_
        refine zx_topi (pk_div (by omega) (by decide) (by decide)) ?_
        refine zx_lald (q := 29) dd_Ms_byteAt_28 rfl (at_f5 hf) rfl (by have := (nI_ltI (by omega) (by decide)).mp hc3; omega) (by decide) ?_
        refine zx_iload_n (q := 30) dd_Ms_byteAt_29 rfl rfl ?_
        refine zx_bipush (nI 7) (q := 32) dd_Ms_byteAt_30 rfl (by decide) ?_
        refine zx_irem (q := 33) dd_Ms_byteAt_32 rfl (by decide) ?_
        refine zx_iconst (nI 2) (q := 34) dd_Ms_byteAt_33 rfl (by decide) ?_
        refine zx_iadd (q := 35) dd_Ms_byteAt_34 rfl ?_
        refine zx_cN2i (q := 38) dd_Ms_byteAt_35 rfl cs_Ms_byteAt_29 ⟨rfl, rfl⟩ (Nat.le_of_ble_eq_true rfl) ⟨Nat.zero_le _, Nat.zero_le _⟩ (ok_Ab_frameByte ⟨_, rfl, ?_⟩)
        exact zx_iret dd_Ms_byteAt_38 rfl (hq _ (by first | (simp [pc_byteAt, nI_clamp hj, hc1, hc2, hc3]; done) | (clear hq; simp_all [pc_byteAt]; done)))
      · skip
        refine zx_iconst (-1) (q := 19) dd_Ms_byteAt_18 rfl (by decide) ?_
        exact zx_iret dd_Ms_byteAt_19 rfl (hq _ (by first | (simp [pc_byteAt, hc1, hc2, hc3]; done) | (clear hq; simp_all [pc_byteAt]; done)))
