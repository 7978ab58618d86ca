set_option maxRecDepth 100000 in
set_option maxHeartbeats 4000000 in
theorem la_switch {E : zxE} {b0 b Ln c : Nat} {xs : Nat → Int32} {B : zB} {H : Nat → zG} {D : zMd} (hL : Ln ≤ 3584) (hc : 7 * c + 7 ≤ Ln) (hR : RR c B H D) (K : ∀ B H D, RR (c + 1) B H D → zx_X E mi_La_law (zl_Y E b0 Ln xs) 733 [some (.ref b0), some (.ref b), some (.ref (b + 71)), some (.int (nI (7 * c)))] [] (zs b (B, hF H, D)) (b + 103) 103 1700) {k : Nat} (hk : k < 32) : zx_X E mi_La_law (zl_Y E b0 Ln xs) 33 [some (.ref b0), some (.ref b), some (.ref (b + 71)), some (.int (nI (7 * c)))] [.int (nI k)] (zs b (B, hF H, D)) (b + 103) 103 1700 := by
  by_cases h0 : k = 0
  · subst h0
    exact zx_tableIn 128 dd_La_law_33 (by decide) (by decide) (show _ = some (95 : Int) from rfl) (by decide) (la_start hL hc hR K)
  by_cases h1 : k = 1
  · subst h1
    exact zx_tableIn 201 dd_La_law_33 (by decide) (by decide) (show _ = some (168 : Int) from rfl) (by decide) (la_stop hL hc hR K)
  by_cases h2 : k = 2
  · subst h2
    exact zx_tableIn 224 dd_La_law_33 (by decide) (by decide) (show _ = some (191 : Int) from rfl) (by decide) (la_busy hL hc hR K)
  by_cases h3 : k = 3
  · subst h3
    exact zx_tableIn 273 dd_La_law_33 (by decide) (by decide) (show _ = some (240 : Int) from rfl) (by decide) (la_state hL hc hR K)
  by_cases h4 : k = 4
  · subst h4
    exact zx_tableIn 296 dd_La_law_33 (by decide) (by decide) (show _ = some (263 : Int) from rfl) (by decide) (la_address hL hc hR K)
  by_cases h5 : k = 5
  · subst h5
    exact zx_tableIn 319 dd_La_law_33 (by decide) (by decide) (show _ = some (286 : Int) from rfl) (by decide) (la_noted hL hc hR K)
  by_cases h6 : k = 6
  · subst h6
    exact zx_tableIn 352 dd_La_law_33 (by decide) (by decide) (show _ = some (319 : Int) from rfl) (by decide) (la_request hL hc hR K)
  by_cases h7 : k = 7
  · subst h7
    exact zx_tableIn 375 dd_La_law_33 (by decide) (by decide) (show _ = some (342 : Int) from rfl) (by decide) (la_send hL hc hR K)
  by_cases h8 : k = 8
  · subst h8
    exact zx_tableIn 470 dd_La_law_33 (by decide) (by decide) (show _ = some (437 : Int) from rfl) (by decide) (la_waiting hL hc hR K)
  by_cases h9 : k = 9
  · subst h9
    exact zx_tableIn 483 dd_La_law_33 (by decide) (by decide) (show _ = some (450 : Int) from rfl) (by decide) (la_identifier hL hc hR K)
  by_cases h10 : k = 10
  · subst h10
    exact zx_tableIn 496 dd_La_law_33 (by decide) (by decide) (show _ = some (463 : Int) from rfl) (by decide) (la_data hL hc hR K)
  by_cases h11 : k = 11
  · subst h11
    exact zx_tableIn 510 dd_La_law_33 (by decide) (by decide) (show _ = some (477 : Int) from rfl) (by decide) (la_deliver hL hc hR K)
  by_cases h12 : k = 12
  · subst h12
    exact zx_tableIn 549 dd_La_law_33 (by decide) (by decide) (show _ = some (516 : Int) from rfl) (by decide) (la_lose hL hc hR K)
  by_cases h13 : k = 13
  · subst h13
    exact zx_tableIn 562 dd_La_law_33 (by decide) (by decide) (show _ = some (529 : Int) from rfl) (by decide) (la_overflowed hL hc hR K)
  by_cases h14 : k = 14
  · subst h14
    exact zx_tableIn 575 dd_La_law_33 (by decide) (by decide) (show _ = some (542 : Int) from rfl) (by decide) (la_tick hL hc hR K)
  by_cases h15 : k = 15
  · subst h15
    exact zx_tableIn 598 dd_La_law_33 (by decide) (by decide) (show _ = some (565 : Int) from rfl) (by decide) (la_outgoing hL hc hR K)
  by_cases h16 : k = 16
  · subst h16
    exact zx_tableIn 621 dd_La_law_33 (by decide) (by decide) (show _ = some (588 : Int) from rfl) (by decide) (la_incoming hL hc hR K)
  by_cases h17 : k = 17
  · subst h17
    exact zx_tableIn 644 dd_La_law_33 (by decide) (by decide) (show _ = some (611 : Int) from rfl) (by decide) (la_delivered hL hc hR K)
  by_cases h18 : k = 18
  · subst h18
    exact zx_tableIn 667 dd_La_law_33 (by decide) (by decide) (show _ = some (634 : Int) from rfl) (by decide) (la_message hL hc hR K)
  by_cases h19 : k = 19
  · subst h19
    exact zx_tableIn 700 dd_La_law_33 (by decide) (by decide) (show _ = some (667 : Int) from rfl) (by decide) (la_byteOf hL hc hR K)
  exact zx_tableOut 733 dd_La_law_33 (Or.inr (by rw [nI_toInt (by omega)]; omega)) (by decide) (K _ _ _ (rr_keep hR))
set_option maxRecDepth 100000 in
set_option maxHeartbeats 4000000 in
theorem la_loop {E : zxE} {b0 b Ln : Nat} {xs : Nat → Int32} (hL : Ln ≤ 3584) : ∀ (k c : Nat) (B : zB) (H : Nat → zG) (D : zMd), Ln < 7 * (c + k) + 7 → 7 * c ≤ 3584 → RR c B H D → zx_X E mi_La_law (zl_Y E b0 Ln xs) 18 [some (.ref b0), some (.ref b), some (.ref (b + 71)), some (.int (nI (7 * c)))] [] (zs b (B, hF H, D)) (b + 103) 103 1700 := by
  intro k
  induction k with
  | zero =>
    intro c B H D hk hc hR
    refine zx_iload_n (q := 19) dd_La_law_18 rfl rfl ?_
    refine zx_aload_n (q := 20) dd_La_law_19 rfl rfl ?_
    refine zl_slen (q := 21) dd_La_law_20 rfl ?_
    refine zx_bipush (nI 7) (q := 23) dd_La_law_21 rfl (by decide) ?_
    refine zx_isub (q := 24) dd_La_law_23 rfl ?_
    refine zx_icmp_gt 739 (q := 27) dd_La_law_24 rfl (by decide) (fun _ => ?_) (fun h => absurd ((la_sub (by omega) hL).mpr (by omega)) h)
    refine zx_iconst (nI 1) (q := 740) dd_La_law_739 rfl (by decide) ?_
    exact zl_ret dd_La_law_740 (by decide) (by decide)
  | succ k ih =>
    intro c B H D hk hc hR
    refine zx_iload_n (q := 19) dd_La_law_18 rfl rfl ?_
    refine zx_aload_n (q := 20) dd_La_law_19 rfl rfl ?_
    refine zl_slen (q := 21) dd_La_law_20 rfl ?_
    refine zx_bipush (nI 7) (q := 23) dd_La_law_21 rfl (by decide) ?_
    refine zx_isub (q := 24) dd_La_law_23 rfl ?_
    refine zx_icmp_gt 739 (q := 27) dd_La_law_24 rfl (by decide) (fun _ => ?_) (fun h => ?_)
    · skip
      refine zx_iconst (nI 1) (q := 740) dd_La_law_739 rfl (by decide) ?_
      exact zl_ret dd_La_law_740 (by decide) (by decide)
    · have h7 : 7 * c + 7 ≤ Ln := Decidable.byContradiction (fun z => h ((la_sub (by omega) hL).mpr z))
      refine zx_aload_n (q := 28) dd_La_law_27 rfl rfl ?_
      refine zx_iload_n (q := 29) dd_La_law_28 rfl rfl ?_
      refine zl_sld (q := 30) dd_La_law_29 rfl rfl (by omega) hL ?_
      refine zx_bipush (nI 31) (q := 32) dd_La_law_30 rfl (by decide) ?_
      refine zx_iand (q := 33) dd_La_law_32 rfl ?_
      obtain ⟨k2, hk2, e2⟩ := la_and (xs (7 * c))
      refine zx_topi e2 ?_
      refine la_switch hL h7 hR (fun B1 H1 D1 hR1 => ?_) hk2
      refine zx_iinc_3 (nI 7) (q := 736) dd_La_law_733 rfl (by decide) (by decide) rfl ?_
      refine zx_goto 18 dd_La_law_736 (by decide) ?_
      have := ih (c + 1) B1 H1 D1 (by omega) (by omega) hR1
      rw [nI_add]
      exact this
def zB0 : zB := (fun _ => 0, fun _ => 0, fun _ => 0, 0, 0, 0)
def zD0 : zMd := (0, 0, 0, fun _ _ => 0, fun _ _ => 0)
def mdL (b : Nat) : List va_E := (.inr (7, [.int 0, .ref (b + (71 + 1)), .ref (b + (71 + 2)), .ref (b + (71 + 3)), .ref (b + (71 + 4)), .ref (b + (71 + 5)), .ref (b + (71 + 6)), .int 0, .ref (b + (71 + 7)), .ref (b + (71 + 8)), .ref (b + (71 + 9)), .int 0, .ref (b + (71 + 10)), .ref (b + (71 + 11)), .ref (b + (71 + 12)), .ref (b + (71 + 13)), .ref (b + (71 + 14)), .ref (b + (71 + 15)), .ref (b + (71 + 16)), .ref (b + (71 + 17)), .ref (b + (71 + 18)), .ref (b + (71 + 19)), .ref (b + (71 + 20)), .ref (b + (71 + 21)), .ref (b + (71 + 22)), .ref (b + (71 + 23)), .ref (b + (71 + 24)), .ref (b + (71 + 25)), .ref (b + (71 + 26)), .ref (b + (71 + 27)), .ref (b + (71 + 28)), .ref (b + (71 + 29)), .ref (b + (71 + 30)), .ref (b + (71 + 31))]) :: [.inl (0, 5, .inl (fun _ => 0)), .inl (0, 5, .inl (fun _ => 0)), .inl (1, 5, .inr (.inl (fun _ => 0))), .inl (2, 5, .inl (fun _ => 0)), .inl (0, 5, .inl (fun _ => 0)), .inl (0, 25, .inl (fun _ => 0)), .inl (0, 48, .inl (fun _ => 0)), .inl (1, 48, .inr (.inl (fun _ => 0))), .inl (0, 48, .inl (fun _ => 0)), .inl (0, 5, .inl (fun _ => 0)), .inl (0, 5, .inl (fun _ => 0)), .inl (0, 5, .inl (fun _ => 0)), .inl (0, 5, .inl (fun _ => 0)), .inl (0, 5, .inl (fun _ => 0)), .inl (1, 5, .inr (.inl (fun _ => 0))), .inl (0, 5, .inl (fun _ => 0)), .inl (0, 5, .inl (fun _ => 0)), .inl (0, 5, .inl (fun _ => 0)), .inl (2, 10, .inl (fun _ => 0)), .inl (0, 10, .inl (fun _ => 0)), .inl (0, 10, .inl (fun _ => 0)), .inl (0, 10, .inl (fun _ => 0)), .inl (0, 10, .inl (fun _ => 0)), .inl (0, 10, .inl (fun _ => 0)), .inl (0, 10, .inl (fun _ => 0)), .inl (2, 10, .inl (fun _ => 0)), .inl (0, 10, .inl (fun _ => 0)), .inl (0, 490, .inl (fun _ => 0)), .inl (0, 5, .inl (fun _ => 0)), .inl (0, 20, .inl (fun _ => 0)), .inl (0, 245, .inl (fun _ => 0))])
set_option maxRecDepth 100000 in
set_option maxHeartbeats 4000000 in
theorem la_cells (b : Nat) : ∀ c : Nat, (hdL b 5 ++ flL b 5 ++ mdL b)[c]? = zc b (zB0, hF (fun _ => zG0), zD0) c
  | 0 => rfl
  | 1 => rfl
  | 2 => rfl
  | 3 => rfl
  | 4 => rfl
  | 5 => rfl
  | 6 => rfl
  | 7 => rfl
  | 8 => rfl
  | 9 => rfl
  | 10 => rfl
  | 11 => rfl
  | 12 => rfl
  | 13 => rfl
  | 14 => rfl
  | 15 => rfl
  | 16 => rfl
  | 17 => rfl
  | 18 => rfl
  | 19 => rfl
  | 20 => rfl
  | 21 => rfl
  | 22 => rfl
  | 23 => rfl
  | 24 => rfl
  | 25 => rfl
  | 26 => rfl
  | 27 => rfl
  | 28 => rfl
  | 29 => rfl
  | 30 => rfl
  | 31 => rfl
  | 32 => rfl
  | 33 => rfl
  | 34 => rfl
  | 35 => rfl
  | 36 => rfl
  | 37 => rfl
  | 38 => rfl
  | 39 => rfl
  | 40 => rfl
  | 41 => rfl
  | 42 => rfl
  | 43 => rfl
  | 44 => rfl
  | 45 => rfl
  | 46 => rfl
  | 47 => rfl
  | 48 => rfl
  | 49 => rfl
  | 50 => rfl
  | 51 => rfl
  | 52 => rfl
  | 53 => rfl
  | 54 => rfl
  | 55 => rfl
  | 56 => rfl
  | 57 => rfl
  | 58 => rfl
  | 59 => rfl
  | 60 => rfl
  | 61 => rfl
  | 62 => rfl
  | 63 => rfl
  | 64 => rfl
  | 65 => rfl
  | 66 => rfl
  | 67 => rfl
  | 68 => rfl
  | 69 => rfl
  | 70 => rfl
  | 71 => rfl
  | 72 => rfl
  | 73 => rfl
  | 74 => rfl
  | 75 => rfl
  | 76 => rfl
  | 77 => rfl
  | 78 => rfl
  | 79 => rfl
  | 80 => rfl
  | 81 => rfl
  | 82 => rfl
  | 83 => rfl
  | 84 => rfl
  | 85 => rfl
  | 86 => rfl
  | 87 => rfl
  | 88 => rfl
  | 89 => rfl
  | 90 => rfl
  | 91 => rfl
  | 92 => rfl
  | 93 => rfl
  | 94 => rfl
  | 95 => rfl
  | 96 => rfl
  | 97 => rfl
  | 98 => rfl
  | 99 => rfl
  | 100 => rfl
  | 101 => rfl
  | 102 => rfl
  | j + 103 => by
    rw [List.getElem?_eq_none (by show 103 ≤ j + 103; omega)]
    unfold zc
    rw [if_neg (by omega), if_neg (by omega), if_neg (by omega)]
theorem la_heap (b : Nat) : rl b (hdL b 5 ++ flL b 5 ++ mdL b) = zs b (zB0, hF (fun _ => zG0), zD0) := by
  funext a
  unfold rl zs
  rw [la_cells]
set_option maxRecDepth 100000 in
set_option maxHeartbeats 4000000 in
theorem la_start0 {E : zxE} {b0 b Ln : Nat} {xs : Nat → Int32} (hL : Ln ≤ 3584) : zx_X E mi_La_law (zl_Y E b0 Ln xs) 0 [some (.ref b0), none, none, none] [] (rl b ([] ++ [])) b 0 0 := by
  refine zx_new (fs := [.null, .null]) (q := 3) dd_La_law_0 rfl kc_Ab nw_La_7 (fun j hj => match j, hj with | 0, _ => rfl | 1, _ => rfl) (by decide) (by decide) ?_
  refine zx_hn (h' := rl b ([] ++ [.inr (6, [.null, .null])])) (b + 1) ((rl_new (m := 0) (rfl : ([] : List va_E).length = 0) 0 rfl).trans rfl) rfl ?_
  refine zx_dup (q := 4) dd_La_law_3 rfl rfl ?_
  refine zx_callI (As := []) (rest := [.ref b]) (Q' := fun r h1 n1 => r = none ∧ zx_X E mi_La_law (zl_Y E b0 Ln xs) 7 _ [.ref b] h1 n1 _ _) (q := 7) dd_La_law_4 rfl ci_La_law_9 rfl (Nat.le_of_ble_eq_true rfl) ⟨by decide, by decide⟩ (ok_Ab_init ⟨rfl, ?_⟩) (fun r h1 n1 z => by obtain ⟨e, k⟩ := z; subst e; exact k)
  refine zx_astore_1 (q := 8) dd_La_law_7 rfl (by decide) rfl ?_
  refine zx_hn (h' := rl b ((hdL b 5 ++ flL b 5) ++ [])) (b + (71 + 0)) (by rw [List.append_nil]) rfl ?_
  refine zx_new (fs := [.int 0, .null, .null, .null, .null, .null, .null, .int 0, .null, .null, .null, .int 0, .null, .null, .null, .null, .null, .null, .null, .null, .null, .null, .null, .null, .null, .null, .null, .null, .null, .null, .null, .null, .null, .null]) (q := 11) dd_La_law_8 rfl kc_Md nw_La_10 (fun j hj => match j, hj with | 0, _ => rfl | 1, _ => rfl | 2, _ => rfl | 3, _ => rfl | 4, _ => rfl | 5, _ => rfl | 6, _ => rfl | 7, _ => rfl | 8, _ => rfl | 9, _ => rfl | 10, _ => rfl | 11, _ => rfl | 12, _ => rfl | 13, _ => rfl | 14, _ => rfl | 15, _ => rfl | 16, _ => rfl | 17, _ => rfl | 18, _ => rfl | 19, _ => rfl | 20, _ => rfl | 21, _ => rfl | 22, _ => rfl | 23, _ => rfl | 24, _ => rfl | 25, _ => rfl | 26, _ => rfl | 27, _ => rfl | 28, _ => rfl | 29, _ => rfl | 30, _ => rfl | 31, _ => rfl | 32, _ => rfl | 33, _ => rfl | j + 34, hj => absurd hj (by omega)) (by decide) (by decide) ?_
  refine zx_hn (h' := rl b ((hdL b 5 ++ flL b 5) ++ [.inr (7, [.int 0, .null, .null, .null, .null, .null, .null, .int 0, .null, .null, .null, .int 0, .null, .null, .null, .null, .null, .null, .null, .null, .null, .null, .null, .null, .null, .null, .null, .null, .null, .null, .null, .null, .null, .null])])) (b + (71 + 1)) ((rl_new (m := 71) (preL_len b 5) 0 rfl).trans rfl) rfl ?_
  refine zx_dup (q := 12) dd_La_law_11 rfl rfl ?_
  refine zx_callI (As := []) (rest := [.ref (b + 71)]) (Q' := fun r h1 n1 => r = none ∧ zx_X E mi_La_law (zl_Y E b0 Ln xs) 15 _ [.ref (b + 71)] h1 n1 _ _) (q := 15) dd_La_law_12 rfl ci_La_law_12 rfl (Nat.le_of_ble_eq_true rfl) ⟨by decide, by decide⟩ (ok_Md_init (m := 71) (preL_len b 5) ⟨rfl, ?_⟩) (fun r h1 n1 z => by obtain ⟨e, k⟩ := z; subst e; exact k)
  refine zx_hn (h' := zs b (zB0, hF (fun _ => zG0), zD0)) (b + 103) (la_heap b) rfl ?_
  refine zx_astore_2 (q := 16) dd_La_law_15 rfl (by decide) rfl ?_
  refine zx_iconst (nI 0) (q := 17) dd_La_law_16 rfl (by decide) ?_
  refine zx_istore_3 (q := 18) dd_La_law_17 rfl (by decide) rfl ?_
  exact la_loop hL 512 0 zB0 (fun _ => zG0) zD0 (by omega) (by omega) rr_0
theorem la_arr {s : State} {A : Array Value} {ty : FieldType} (h : (Cond.arrayClass ty).before A s = true) (hty : ∀ C, ty ≠ .object C) : ∃ cA : ClassId, ArrOfT s cA ty ∧ va_RA s cA ty := by
  obtain ⟨cA, kA, comp, h1, h2, h3⟩ := Cond.arrayClass_spec h
  refine ⟨cA, fun n z => ⟨fun k h => (by cases h), kA, h2, comp, h3⟩, ?_⟩
  cases ty with
  | object C => exact absurd rfl (hty C)
  | _ => exact h1
theorem la_arq {s : State} {A : Array Value} {C : String} (h : (Cond.arrayOver (.object C)).before A s = true) : ∃ cA : ClassId, ArrOfT s cA (.object C) ∧ va_RA s cA (.object C) := by
  obtain ⟨comp, c, k, h1, h2, h3, h4, h5⟩ := Cond.arrayOver_spec h
  exact ⟨c, fun n z => ⟨fun k h => (by cases h), k, h3, comp, h4⟩, k, comp, h3, h4, h1, h5⟩
theorem la_class {s : State} {A : Array Value} {C : String} {T : u_T} {N n : Nat} (hts : ∀ w ∈ zx_T, w.before A s = true) (hin : ∀ w ∈ u_ws C T N, w ∈ zx_T) (hi : Cond.instantiable C n ∈ zx_T) : ∃ (cC : ClassId) (iS : Nat → Nat), u_Kn s C T N cC iS := u_known hts hin (hts _ hi)
set_option maxRecDepth 100000 in
set_option maxHeartbeats 4000000 in
theorem la_K {s : State} {A : Array Value} (hts0 : ∀ w ∈ lw_tbl, w.before A s = true) (l : Launch) (b : Nat) : ∃ (D : va_G) (dA : Nat → ClassId), zx_K (l, b, D, dA) s := by
  have hts : ∀ w ∈ zx_T, w.before A s = true := fun w hw => hts0 w (List.mem_filter.mp hw).1
  obtain ⟨c0, s0, k0⟩ := la_class hts kc_Bu.2.1 nw_Ab_9.2.1
  obtain ⟨c1, s1, k1⟩ := la_class hts kc_Fu.2.1 nw_Ab_16.2.1
  obtain ⟨c2, s2, k2⟩ := la_class hts kc_In.2.1 nw_Fu_15.2.1
  obtain ⟨c3, s3, k3⟩ := la_class hts kc_Ms.2.1 nw_Fu_21.2.1
  obtain ⟨c4, s4, k4⟩ := la_class hts kc_Ou.2.1 nw_Fu_46.2.1
  obtain ⟨c5, s5, k5⟩ := la_class hts kc_St.2.1 nw_Ab_22.2.1
  obtain ⟨c6, s6, k6⟩ := la_class hts kc_Ab.2.1 nw_La_7.2.1
  obtain ⟨c7, s7, k7⟩ := la_class hts kc_Md.2.1 nw_La_10.2.1
  obtain ⟨a0, b0, d0⟩ := la_arr (hts _ ac_int) (fun C h => by cases h)
  obtain ⟨a1, b1, d1⟩ := la_arr (hts _ ac_long) (fun C h => by cases h)
  obtain ⟨a2, b2, d2⟩ := la_arr (hts _ ac_boolean) (fun C h => by cases h)
  obtain ⟨a3, b3, d3⟩ := la_arq (hts0 (.arrayOver (.object "AddressClaimBus$Function")) (by decide +kernel))
  obtain ⟨a4, b4, d4⟩ := la_arq (hts0 (.arrayOver (.object "AddressClaimBus$Incoming")) (by decide +kernel))
  refine ⟨((fun j => match j with | 0 => c0 | 1 => c1 | 2 => c2 | 3 => c3 | 4 => c4 | 5 => c5 | 6 => c6 | _ => c7), (fun j => match j with | 0 => s0 | 1 => s1 | 2 => s2 | 3 => s3 | 4 => s4 | 5 => s5 | 6 => s6 | _ => s7)), (fun j => match j with | 0 => a0 | 1 => a1 | 2 => a2 | 3 => a3 | _ => a4), ⟨fun c q hq => ?_, fun k q hq => ?_⟩, fun q hq => ?_, fun C hC => ?_⟩
  · match c, hq with
    | 0, hq => cases hq; exact k0
    | 1, hq => cases hq; exact k1
    | 2, hq => cases hq; exact k2
    | 3, hq => cases hq; exact k3
    | 4, hq => cases hq; exact k4
    | 5, hq => cases hq; exact k5
    | 6, hq => cases hq; exact k6
    | 7, hq => cases hq; exact k7
    | j + 8, hq => exact absurd hq (by intro h; cases h)
  · match k, hq with
    | 0, hq => cases hq; exact ⟨b0, d0⟩
    | 1, hq => cases hq; exact ⟨b1, d1⟩
    | 2, hq => cases hq; exact ⟨b2, d2⟩
    | 3, hq => cases hq; exact ⟨b3, d3⟩
    | 4, hq => cases hq; exact ⟨b4, d4⟩
    | j + 5, hq => exact absurd hq (by intro h; cases h)
  · have hall : ∀ q ∈ zx_N, (Cond.methodLinkNest q.1 q.2.1 q.2.2 "AddressClaimBus") ∈ lw_tbl := by decide +kernel
    exact va_Nw.of rfl (hts0 _ (hall q hq))
  · have hall : ∀ C ∈ zx_AO, (Cond.arrayOver (.object C)) ∈ lw_tbl := by decide +kernel
    exact va_AO.of (hts0 _ (hall C hC))
set_option maxRecDepth 100000 in
set_option maxHeartbeats 4000000 in
theorem whole_start {p : Program} {e : Env} {s : State} {m : MethodId} {below : List Frame} {meth : Method} {c : Code} (l : Launch) {b L : Nat} {xs : Nat → Int32} (hL : L ≤ 3584) (C0 : lw_At p s m meth c b L xs) : W p l e room_1 s m #[Value.ref b] below meth c s.heap [] 0 0 (lw_Z below #[Value.ref b] s) (entryFrame m ([Value.ref b] : List Value).toArray 4) := by
  obtain ⟨h1, h2, h3, h4, h5, h6, h7, h8, h9, -, h10⟩ := C0
  obtain ⟨D, dA, hK⟩ := la_K h6 l s.heap.size
  have hl := lv_entry ([Value.ref b] : List Value) (n := 4) (Nat.le_of_ble_eq_true rfl)
  rw [lg_entry_eq]
  refine la_start0 (E := (l, s.heap.size, D, dA)) (b0 := b) (b := s.heap.size) (Ln := L) (xs := xs) hL p e s m _ below meth c _ s.heap [] ⟨h1, h2, h4, h5, fun w hw => h6 w (List.mem_filter.mp hw).1, h3, h9, h10, hK, h7, h8, rfl⟩ hl ⟨rfl, Nat.le_refl _, fun a e he => ?_⟩ va_S.rf (Nat.le_refl _)
  exfalso
  unfold rl at he
  split at he
  · cases he
  · cases he
