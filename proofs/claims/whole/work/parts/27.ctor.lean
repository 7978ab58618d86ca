/-! The constructors: the heap as the list of the cells from b on. -/
def rl (b : Nat) (l : List va_E) : zxH := fun a => if a < b then none else l[a - b]?
theorem rl_at {b m : Nat} {pre l : List va_E} {e : va_E} (hp : pre.length = m) (i : Nat) (he : l[i]? = some e) : rl b (pre ++ l) (b + (m + i)) = some e := by
  unfold rl
  rw [if_neg (by omega), Nat.add_sub_cancel_left, List.getElem?_append_right (by omega), show m + i - pre.length = i by omega]
  exact he
theorem rl_up {b m : Nat} {pre l : List va_E} {e : va_E} (hp : pre.length = m) (i : Nat) (hi : i < l.length) : zx_up (rl b (pre ++ l)) (b + (m + i)) e = rl b (pre ++ l.set i e) := by
  funext q
  unfold zx_up rl
  by_cases hq : q = b + (m + i)
  · subst hq
    rw [if_pos rfl, if_neg (by omega), Nat.add_sub_cancel_left, List.getElem?_append_right (by omega), show m + i - pre.length = i by omega, List.getElem?_set_self hi]
  · rw [if_neg hq]
    by_cases hb : q < b
    · rw [if_pos hb, if_pos hb]
    · rw [if_neg hb, if_neg hb]
      by_cases hl : q - b < pre.length
      · rw [List.getElem?_append_left hl, List.getElem?_append_left hl]
      · rw [List.getElem?_append_right (by omega), List.getElem?_append_right (by omega), List.getElem?_set_ne (by omega)]
theorem rl_new {b m : Nat} {pre l : List va_E} {e : va_E} (hp : pre.length = m) (k : Nat) (hk : l.length = k) : zx_up (rl b (pre ++ l)) (b + (m + k)) e = rl b (pre ++ (l ++ [e])) := by
  funext q
  unfold zx_up rl
  by_cases hq : q = b + (m + k)
  · subst hq
    rw [if_pos rfl, if_neg (by omega), Nat.add_sub_cancel_left, List.getElem?_append_right (by omega), show m + k - pre.length = k by omega, List.getElem?_append_right (by omega), show k - l.length = 0 by omega]
    rfl
  · rw [if_neg hq]
    by_cases hb : q < b
    · rw [if_pos hb, if_pos hb]
    · rw [if_neg hb, if_neg hb]
      by_cases hl : q - b < pre.length
      · rw [List.getElem?_append_left hl, List.getElem?_append_left hl]
      · rw [List.getElem?_append_right (by omega), List.getElem?_append_right (by omega)]
        by_cases hg : q - b - pre.length < l.length
        · rw [List.getElem?_append_left hg]
        · rw [List.getElem?_append_right (by omega)]
          have h1 : l[q - b - pre.length]? = none := List.getElem?_eq_none (by omega)
          have h2 : ([e] : List va_E)[q - b - pre.length - l.length]? = none := List.getElem?_eq_none (by simp; omega)
          rw [h1, h2]
theorem rl_cut {b : Nat} {pre l : List va_E} (k : Nat) : rl b (pre ++ l) = rl b ((pre ++ l.take k) ++ l.drop k) := by rw [List.append_assoc, List.take_append_drop]
theorem rl_join {b : Nat} {pre l1 l2 : List va_E} : rl b ((pre ++ l1) ++ l2) = rl b (pre ++ (l1 ++ l2)) := by rw [List.append_assoc]
theorem rl_len {m k : Nat} {pre l : List va_E} (hp : pre.length = m) (hk : (l.take k).length = k) : (pre ++ l.take k).length = m + k := by rw [List.length_append, hk, hp]
set_option maxRecDepth 100000 in
set_option maxHeartbeats 4000000 in
theorem ok_Ms_init {E : zxE} {b n m : Nat} {pre : List va_E} {Q : Option Value → zxH → Nat → Prop} (hp : pre.length = m) (hq : Q none (rl b (pre ++ [.inr (3, [.ref (b + (m + 1)), .int 0, .int 0, .int 0, .int 0]), .inl (1, 7, .inr (.inl (fun _ => 0)))])) (b + (m + 2))) : zx_Ok E my_Ms_init mi_Ms_init [.ref (b + m)] (rl b (pre ++ [.inr (3, [.null, .int 0, .int 0, .int 0, .int 0])])) (b + (m + 1)) Q := by
  refine zx_start [some (.ref (b + m))] (by decide) rfl rfl (Nat.le_of_ble_eq_true rfl) rfl ?_
  refine zx_aload_n (q := 1) dd_Ms_init_0 rfl rfl ?_
  refine zx_objInit (q := 4) dd_Ms_init_1 rfl cw_Ms_obj (by decide) (Nat.le_of_ble_eq_true rfl) ?_
  refine zx_aload_n (q := 5) dd_Ms_init_4 rfl rfl ?_
  refine zx_bipush (nI 7) (q := 7) dd_Ms_init_5 rfl (by decide) ?_
  refine zx_newL (q := 9) dd_Ms_init_7 rfl ac_long rfl (by decide) (by decide) (by decide) ?_
  refine zx_heap (rl_new hp 1 rfl) ?_
  refine zx_putF (q := 12) dd_Ms_init_9 rfl fl_Ms_9 rfl ⟨_, rfl, rfl⟩ (rl_at hp 0 rfl) rfl rfl (Nat.le_of_ble_eq_true rfl) (rl_up hp 0 (Nat.le_of_ble_eq_true rfl)) ?_
  exact zx_vret dd_Ms_init_12 rfl hq
set_option maxRecDepth 100000 in
set_option maxHeartbeats 4000000 in
theorem ok_St_init {E : zxE} {b n m : Nat} {pre : List va_E} {Q : Option Value → zxH → Nat → Prop} {k : Int32} (hp : pre.length = m) (hq : Q none (rl b (pre ++ [.inr (5, [.int k, .int 0, .int 0])])) n) : zx_Ok E my_St_init mi_St_init [.ref (b + m), .int k] (rl b (pre ++ [.inr (5, [.int 0, .int 0, .int 0])])) n Q := by
  refine zx_start [some (.ref (b + m)), some (.int k)] (by decide) rfl rfl (Nat.le_of_ble_eq_true rfl) rfl ?_
  refine zx_aload_n (q := 1) dd_St_init_0 rfl rfl ?_
  refine zx_objInit (q := 4) dd_St_init_1 rfl cw_St_obj (by decide) (Nat.le_of_ble_eq_true rfl) ?_
  refine zx_aload_n (q := 5) dd_St_init_4 rfl rfl ?_
  refine zx_iload_n (q := 6) dd_St_init_5 rfl rfl ?_
  refine zx_putF (q := 9) dd_St_init_6 rfl fl_St_7 rfl ⟨_, rfl, rfl⟩ (rl_at hp 0 rfl) rfl rfl (Nat.le_of_ble_eq_true rfl) (rl_up hp 0 (Nat.le_of_ble_eq_true rfl)) ?_
  exact zx_vret dd_St_init_9 rfl hq
set_option maxRecDepth 100000 in
set_option maxHeartbeats 4000000 in
theorem ok_Ou_init {E : zxE} {b n m : Nat} {pre : List va_E} {Q : Option Value → zxH → Nat → Prop} {p1 p2 : Nat} (hp : pre.length = m) (hq : Q none (rl b (pre ++ [.inr (4, [.ref p1, .ref p2, .int (nI 0), .int 0, .int 0, .int 0, .int 0, .long 0, .int 0, .long pc_NEVER])])) n) : zx_Ok E my_Ou_init mi_Ou_init [.ref (b + m), .ref p1, .ref p2] (rl b (pre ++ [.inr (4, [.null, .null, .int 0, .int 0, .int 0, .int 0, .int 0, .long 0, .int 0, .long 0])])) n Q := by
  refine zx_start [some (.ref (b + m)), some (.ref p1), some (.ref p2)] (by decide) rfl rfl (Nat.le_of_ble_eq_true rfl) rfl ?_
  refine zx_aload_n (q := 1) dd_Ou_init_0 rfl rfl ?_
  refine zx_objInit (q := 4) dd_Ou_init_1 rfl cw_Ou_obj (by decide) (Nat.le_of_ble_eq_true rfl) ?_
  refine zx_aload_n (q := 5) dd_Ou_init_4 rfl rfl ?_
  refine zx_iconst (nI 0) (q := 6) dd_Ou_init_5 rfl (by decide) ?_
  refine zx_put (q := 9) dd_Ou_init_6 rfl fl_Ou_9 (rl_at hp 0 rfl) rfl rfl (Nat.le_of_ble_eq_true rfl) (rl_up hp 0 (Nat.le_of_ble_eq_true rfl)) ?_
  refine zx_aload_n (q := 10) dd_Ou_init_9 rfl rfl ?_
  refine zx_ldc2 _ (q := 13) dd_Ou_init_10 rfl kk_Ou_15 ?_
  refine zx_put (q := 16) dd_Ou_init_13 rfl fl_Ou_17 (rl_at hp 0 rfl) rfl rfl (Nat.le_of_ble_eq_true rfl) (rl_up hp 0 (Nat.le_of_ble_eq_true rfl)) ?_
  refine zx_aload_n (q := 17) dd_Ou_init_16 rfl rfl ?_
  refine zx_aload_n (q := 18) dd_Ou_init_17 rfl rfl ?_
  refine zx_putF (q := 21) dd_Ou_init_18 rfl fl_Ou_21 rfl ⟨_, rfl, rfl⟩ (rl_at hp 0 rfl) rfl rfl (Nat.le_of_ble_eq_true rfl) (rl_up hp 0 (Nat.le_of_ble_eq_true rfl)) ?_
  refine zx_aload_n (q := 22) dd_Ou_init_21 rfl rfl ?_
  refine zx_aload_n (q := 23) dd_Ou_init_22 rfl rfl ?_
  refine zx_putF (q := 26) dd_Ou_init_23 rfl fl_Ou_25 rfl ⟨_, rfl, rfl⟩ (rl_at hp 0 rfl) rfl rfl (Nat.le_of_ble_eq_true rfl) (rl_up hp 0 (Nat.le_of_ble_eq_true rfl)) ?_
  exact zx_vret dd_Ou_init_26 rfl hq
set_option maxRecDepth 100000 in
set_option maxHeartbeats 4000000 in
theorem ok_In_init {E : zxE} {b n m : Nat} {pre : List va_E} {Q : Option Value → zxH → Nat → Prop} {p1 p2 : Nat} (hp : pre.length = m) (hq : Q none (rl b (pre ++ [.inr (2, [.ref p1, .ref p2, .ref (b + (m + 1)), .int 0, .int 0, .int 0, .int 0, .int 0, .long pc_NEVER]), .inr (3, [.ref (b + (m + 2)), .int 0, .int 0, .int 0, .int 0]), .inl (1, 7, .inr (.inl (fun _ => 0)))])) (b + (m + 3))) : zx_Ok E my_In_init mi_In_init [.ref (b + m), .ref p1, .ref p2] (rl b (pre ++ [.inr (2, [.null, .null, .null, .int 0, .int 0, .int 0, .int 0, .int 0, .long 0])])) (b + (m + 1)) Q := by
  refine zx_start [some (.ref (b + m)), some (.ref p1), some (.ref p2)] (by decide) rfl rfl (Nat.le_of_ble_eq_true rfl) rfl ?_
  refine zx_aload_n (q := 1) dd_In_init_0 rfl rfl ?_
  refine zx_objInit (q := 4) dd_In_init_1 rfl cw_In_obj (by decide) (Nat.le_of_ble_eq_true rfl) ?_
  refine zx_aload_n (q := 5) dd_In_init_4 rfl rfl ?_
  refine zx_new (fs := [.null, .int 0, .int 0, .int 0, .int 0]) (q := 8) dd_In_init_5 rfl kc_Ms nw_In_9 (fun j hj => match j, hj with | 0, _ => rfl | 1, _ => rfl | 2, _ => rfl | 3, _ => rfl | 4, _ => rfl) (by decide) (by decide) ?_
  refine zx_heap (rl_new hp 1 rfl) ?_
  refine zx_dup (q := 9) dd_In_init_8 rfl rfl ?_
  refine zx_heap (rl_cut 1) ?_
  refine zx_callJ (As := []) (rest := [.ref (b + (m + 1)), .ref (b + m)]) (Q' := fun r h1 n1 => r = none ∧ zx_X E mi_In_init (zx_Y E mi_In_init Q) 12 _ [.ref (b + (m + 1)), .ref (b + m)] h1 n1 _ _) (q := 12) dd_In_init_9 rfl ci_In_init_11 rfl (Nat.le_of_ble_eq_true rfl) ⟨by decide, by decide⟩ (ok_Ms_init (rl_len hp rfl) ⟨rfl, ?_⟩) (fun r h1 n1 z => by obtain ⟨e, k⟩ := z; subst e; exact k)
  refine zx_heap rl_join ?_
  refine zx_putF (q := 15) dd_In_init_12 rfl fl_In_12 rfl ⟨_, rfl, rfl⟩ (rl_at hp 0 rfl) rfl rfl (Nat.le_of_ble_eq_true rfl) (rl_up hp 0 (Nat.le_of_ble_eq_true rfl)) ?_
  refine zx_aload_n (q := 16) dd_In_init_15 rfl rfl ?_
  refine zx_ldc2 _ (q := 19) dd_In_init_16 rfl kk_In_18 ?_
  refine zx_put (q := 22) dd_In_init_19 rfl fl_In_20 (rl_at hp 0 rfl) rfl rfl (Nat.le_of_ble_eq_true rfl) (rl_up hp 0 (Nat.le_of_ble_eq_true rfl)) ?_
  refine zx_aload_n (q := 23) dd_In_init_22 rfl rfl ?_
  refine zx_aload_n (q := 24) dd_In_init_23 rfl rfl ?_
  refine zx_putF (q := 27) dd_In_init_24 rfl fl_In_24 rfl ⟨_, rfl, rfl⟩ (rl_at hp 0 rfl) rfl rfl (Nat.le_of_ble_eq_true rfl) (rl_up hp 0 (Nat.le_of_ble_eq_true rfl)) ?_
  refine zx_aload_n (q := 28) dd_In_init_27 rfl rfl ?_
  refine zx_aload_n (q := 29) dd_In_init_28 rfl rfl ?_
  refine zx_putF (q := 32) dd_In_init_29 rfl fl_In_28 rfl ⟨_, rfl, rfl⟩ (rl_at hp 0 rfl) rfl rfl (Nat.le_of_ble_eq_true rfl) (rl_up hp 0 (Nat.le_of_ble_eq_true rfl)) ?_
  exact zx_vret dd_In_init_32 rfl hq
set_option maxRecDepth 100000 in
set_option maxHeartbeats 4000000 in
theorem ok_Bu_init {E : zxE} {b n m : Nat} {pre : List va_E} {Q : Option Value → zxH → Nat → Prop} (hp : pre.length = m) (hq : Q none (rl b (pre ++ [.inr (0, [.ref (b + (m + 1)), .ref (b + (m + 2)), .ref (b + (m + 3)), .int 0, .int 0, .long 0]), .inl (0, 48, .inl (fun _ => 0)), .inl (1, 48, .inr (.inl (fun _ => 0))), .inl (0, 48, .inl (fun _ => 0))])) (b + (m + 4))) : zx_Ok E my_Bu_init mi_Bu_init [.ref (b + m)] (rl b (pre ++ [.inr (0, [.null, .null, .null, .int 0, .int 0, .long 0])])) (b + (m + 1)) Q := by
  refine zx_start [some (.ref (b + m))] (by decide) rfl rfl (Nat.le_of_ble_eq_true rfl) rfl ?_
  refine zx_aload_n (q := 1) dd_Bu_init_0 rfl rfl ?_
  refine zx_objInit (q := 4) dd_Bu_init_1 rfl cw_Bu_obj (by decide) (Nat.le_of_ble_eq_true rfl) ?_
  refine zx_aload_n (q := 5) dd_Bu_init_4 rfl rfl ?_
  refine zx_bipush (nI 48) (q := 7) dd_Bu_init_5 rfl (by decide) ?_
  refine zx_newI (q := 9) dd_Bu_init_7 rfl ac_int rfl (by decide) (by decide) (by decide) ?_
  refine zx_heap (rl_new hp 1 rfl) ?_
  refine zx_putF (q := 12) dd_Bu_init_9 rfl fl_Bu_9 rfl ⟨_, rfl, rfl⟩ (rl_at hp 0 rfl) rfl rfl (Nat.le_of_ble_eq_true rfl) (rl_up hp 0 (Nat.le_of_ble_eq_true rfl)) ?_
  refine zx_aload_n (q := 13) dd_Bu_init_12 rfl rfl ?_
  refine zx_bipush (nI 48) (q := 15) dd_Bu_init_13 rfl (by decide) ?_
  refine zx_newL (q := 17) dd_Bu_init_15 rfl ac_long rfl (by decide) (by decide) (by decide) ?_
  refine zx_heap (rl_new hp 2 rfl) ?_
  refine zx_putF (q := 20) dd_Bu_init_17 rfl fl_Bu_15 rfl ⟨_, rfl, rfl⟩ (rl_at hp 0 rfl) rfl rfl (Nat.le_of_ble_eq_true rfl) (rl_up hp 0 (Nat.le_of_ble_eq_true rfl)) ?_
  refine zx_aload_n (q := 21) dd_Bu_init_20 rfl rfl ?_
  refine zx_bipush (nI 48) (q := 23) dd_Bu_init_21 rfl (by decide) ?_
  refine zx_newI (q := 25) dd_Bu_init_23 rfl ac_int rfl (by decide) (by decide) (by decide) ?_
  refine zx_heap (rl_new hp 3 rfl) ?_
  refine zx_putF (q := 28) dd_Bu_init_25 rfl fl_Bu_19 rfl ⟨_, rfl, rfl⟩ (rl_at hp 0 rfl) rfl rfl (Nat.le_of_ble_eq_true rfl) (rl_up hp 0 (Nat.le_of_ble_eq_true rfl)) ?_
  exact zx_vret dd_Bu_init_28 rfl hq
set_option maxRecDepth 100000 in
set_option maxHeartbeats 4000000 in
theorem ok_Md_init {E : zxE} {b n m : Nat} {pre : List va_E} {Q : Option Value → zxH → Nat → Prop} (hp : pre.length = m) (hq : Q none (rl b (pre ++ [.inr (7, [.int 0, .ref (b + (m + 1)), .ref (b + (m + 2)), .ref (b + (m + 3)), .ref (b + (m + 4)), .ref (b + (m + 5)), .ref (b + (m + 6)), .int 0, .ref (b + (m + 7)), .ref (b + (m + 8)), .ref (b + (m + 9)), .int 0, .ref (b + (m + 10)), .ref (b + (m + 11)), .ref (b + (m + 12)), .ref (b + (m + 13)), .ref (b + (m + 14)), .ref (b + (m + 15)), .ref (b + (m + 16)), .ref (b + (m + 17)), .ref (b + (m + 18)), .ref (b + (m + 19)), .ref (b + (m + 20)), .ref (b + (m + 21)), .ref (b + (m + 22)), .ref (b + (m + 23)), .ref (b + (m + 24)), .ref (b + (m + 25)), .ref (b + (m + 26)), .ref (b + (m + 27)), .ref (b + (m + 28)), .ref (b + (m + 29)), .ref (b + (m + 30)), .ref (b + (m + 31))]), .inl (0, 5, .inl (fun _ => 0)), .inl (0, 5, .inl (fun _ => 0)), .inl (1, 5, .inr (.inl (fun _ => 0))), .inl (2, 5, .inl (fun _ => 0)), .inl (0, 5, .inl (fun _ => 0)), .inl (0, 25, .inl (fun _ => 0)), .inl (0, 48, .inl (fun _ => 0)), .inl (1, 48, .inr (.inl (fun _ => 0))), .inl (0, 48, .inl (fun _ => 0)), .inl (0, 5, .inl (fun _ => 0)), .inl (0, 5, .inl (fun _ => 0)), .inl (0, 5, .inl (fun _ => 0)), .inl (0, 5, .inl (fun _ => 0)), .inl (0, 5, .inl (fun _ => 0)), .inl (1, 5, .inr (.inl (fun _ => 0))), .inl (0, 5, .inl (fun _ => 0)), .inl (0, 5, .inl (fun _ => 0)), .inl (0, 5, .inl (fun _ => 0)), .inl (2, 10, .inl (fun _ => 0)), .inl (0, 10, .inl (fun _ => 0)), .inl (0, 10, .inl (fun _ => 0)), .inl (0, 10, .inl (fun _ => 0)), .inl (0, 10, .inl (fun _ => 0)), .inl (0, 10, .inl (fun _ => 0)), .inl (0, 10, .inl (fun _ => 0)), .inl (2, 10, .inl (fun _ => 0)), .inl (0, 10, .inl (fun _ => 0)), .inl (0, 490, .inl (fun _ => 0)), .inl (0, 5, .inl (fun _ => 0)), .inl (0, 20, .inl (fun _ => 0)), .inl (0, 245, .inl (fun _ => 0))])) (b + (m + 32))) : zx_Ok E my_Md_init mi_Md_init [.ref (b + m)] (rl b (pre ++ [.inr (7, [.int 0, .null, .null, .null, .null, .null, .null, .int 0, .null, .null, .null, .int 0, .null, .null, .null, .null, .null, .null, .null, .null, .null, .null, .null, .null, .null, .null, .null, .null, .null, .null, .null, .null, .null, .null])])) (b + (m + 1)) Q := by
  refine zx_start [some (.ref (b + m))] (by decide) rfl rfl (Nat.le_of_ble_eq_true rfl) rfl ?_
  refine zx_aload_n (q := 1) dd_Md_init_0 rfl rfl ?_
  refine zx_objInit (q := 4) dd_Md_init_1 rfl cw_Md_obj (by decide) (Nat.le_of_ble_eq_true rfl) ?_
  refine zx_aload_n (q := 5) dd_Md_init_4 rfl rfl ?_
  refine zx_iconst (nI 5) (q := 6) dd_Md_init_5 rfl (by decide) ?_
  refine zx_newI (q := 8) dd_Md_init_6 rfl ac_int rfl (by decide) (by decide) (by decide) ?_
  refine zx_heap (rl_new hp 1 rfl) ?_
  refine zx_put (q := 11) dd_Md_init_8 rfl fl_Md_7 (rl_at hp 0 rfl) rfl rfl (Nat.le_of_ble_eq_true rfl) (rl_up hp 0 (Nat.le_of_ble_eq_true rfl)) ?_
  refine zx_aload_n (q := 12) dd_Md_init_11 rfl rfl ?_
  refine zx_iconst (nI 5) (q := 13) dd_Md_init_12 rfl (by decide) ?_
  refine zx_newI (q := 15) dd_Md_init_13 rfl ac_int rfl (by decide) (by decide) (by decide) ?_
  refine zx_heap (rl_new hp 2 rfl) ?_
  refine zx_put (q := 18) dd_Md_init_15 rfl fl_Md_13 (rl_at hp 0 rfl) rfl rfl (Nat.le_of_ble_eq_true rfl) (rl_up hp 0 (Nat.le_of_ble_eq_true rfl)) ?_
  refine zx_aload_n (q := 19) dd_Md_init_18 rfl rfl ?_
  refine zx_iconst (nI 5) (q := 20) dd_Md_init_19 rfl (by decide) ?_
  refine zx_newL (q := 22) dd_Md_init_20 rfl ac_long rfl (by decide) (by decide) (by decide) ?_
  refine zx_heap (rl_new hp 3 rfl) ?_
  refine zx_put (q := 25) dd_Md_init_22 rfl fl_Md_16 (rl_at hp 0 rfl) rfl rfl (Nat.le_of_ble_eq_true rfl) (rl_up hp 0 (Nat.le_of_ble_eq_true rfl)) ?_
  refine zx_aload_n (q := 26) dd_Md_init_25 rfl rfl ?_
  refine zx_iconst (nI 5) (q := 27) dd_Md_init_26 rfl (by decide) ?_
  refine zx_newZ (q := 29) dd_Md_init_27 rfl ac_boolean rfl (by decide) (by decide) (by decide) ?_
  refine zx_heap (rl_new hp 4 rfl) ?_
  refine zx_put (q := 32) dd_Md_init_29 rfl fl_Md_20 (rl_at hp 0 rfl) rfl rfl (Nat.le_of_ble_eq_true rfl) (rl_up hp 0 (Nat.le_of_ble_eq_true rfl)) ?_
  refine zx_aload_n (q := 33) dd_Md_init_32 rfl rfl ?_
  refine zx_iconst (nI 5) (q := 34) dd_Md_init_33 rfl (by decide) ?_
  refine zx_newI (q := 36) dd_Md_init_34 rfl ac_int rfl (by decide) (by decide) (by decide) ?_
  refine zx_heap (rl_new hp 5 rfl) ?_
  refine zx_put (q := 39) dd_Md_init_36 rfl fl_Md_24 (rl_at hp 0 rfl) rfl rfl (Nat.le_of_ble_eq_true rfl) (rl_up hp 0 (Nat.le_of_ble_eq_true rfl)) ?_
  refine zx_aload_n (q := 40) dd_Md_init_39 rfl rfl ?_
  refine zx_bipush (nI 25) (q := 42) dd_Md_init_40 rfl (by decide) ?_
  refine zx_newI (q := 44) dd_Md_init_42 rfl ac_int rfl (by decide) (by decide) (by decide) ?_
  refine zx_heap (rl_new hp 6 rfl) ?_
  refine zx_put (q := 47) dd_Md_init_44 rfl fl_Md_27 (rl_at hp 0 rfl) rfl rfl (Nat.le_of_ble_eq_true rfl) (rl_up hp 0 (Nat.le_of_ble_eq_true rfl)) ?_
  refine zx_aload_n (q := 48) dd_Md_init_47 rfl rfl ?_
  refine zx_bipush (nI 48) (q := 50) dd_Md_init_48 rfl (by decide) ?_
  refine zx_newI (q := 52) dd_Md_init_50 rfl ac_int rfl (by decide) (by decide) (by decide) ?_
  refine zx_heap (rl_new hp 7 rfl) ?_
  refine zx_put (q := 55) dd_Md_init_52 rfl fl_Md_30 (rl_at hp 0 rfl) rfl rfl (Nat.le_of_ble_eq_true rfl) (rl_up hp 0 (Nat.le_of_ble_eq_true rfl)) ?_
  refine zx_aload_n (q := 56) dd_Md_init_55 rfl rfl ?_
  refine zx_bipush (nI 48) (q := 58) dd_Md_init_56 rfl (by decide) ?_
  refine zx_newL (q := 60) dd_Md_init_58 rfl ac_long rfl (by decide) (by decide) (by decide) ?_
  refine zx_heap (rl_new hp 8 rfl) ?_
  refine zx_put (q := 63) dd_Md_init_60 rfl fl_Md_33 (rl_at hp 0 rfl) rfl rfl (Nat.le_of_ble_eq_true rfl) (rl_up hp 0 (Nat.le_of_ble_eq_true rfl)) ?_
  refine zx_aload_n (q := 64) dd_Md_init_63 rfl rfl ?_
  refine zx_bipush (nI 48) (q := 66) dd_Md_init_64 rfl (by decide) ?_
  refine zx_newI (q := 68) dd_Md_init_66 rfl ac_int rfl (by decide) (by decide) (by decide) ?_
  refine zx_heap (rl_new hp 9 rfl) ?_
  refine zx_put (q := 71) dd_Md_init_68 rfl fl_Md_36 (rl_at hp 0 rfl) rfl rfl (Nat.le_of_ble_eq_true rfl) (rl_up hp 0 (Nat.le_of_ble_eq_true rfl)) ?_
  refine zx_aload_n (q := 72) dd_Md_init_71 rfl rfl ?_
  refine zx_iconst (nI 5) (q := 73) dd_Md_init_72 rfl (by decide) ?_
  refine zx_newI (q := 75) dd_Md_init_73 rfl ac_int rfl (by decide) (by decide) (by decide) ?_
  refine zx_heap (rl_new hp 10 rfl) ?_
  refine zx_put (q := 78) dd_Md_init_75 rfl fl_Md_39 (rl_at hp 0 rfl) rfl rfl (Nat.le_of_ble_eq_true rfl) (rl_up hp 0 (Nat.le_of_ble_eq_true rfl)) ?_
  refine zx_aload_n (q := 79) dd_Md_init_78 rfl rfl ?_
  refine zx_iconst (nI 5) (q := 80) dd_Md_init_79 rfl (by decide) ?_
  refine zx_newI (q := 82) dd_Md_init_80 rfl ac_int rfl (by decide) (by decide) (by decide) ?_
  refine zx_heap (rl_new hp 11 rfl) ?_
  refine zx_put (q := 85) dd_Md_init_82 rfl fl_Md_42 (rl_at hp 0 rfl) rfl rfl (Nat.le_of_ble_eq_true rfl) (rl_up hp 0 (Nat.le_of_ble_eq_true rfl)) ?_
  refine zx_aload_n (q := 86) dd_Md_init_85 rfl rfl ?_
  refine zx_iconst (nI 5) (q := 87) dd_Md_init_86 rfl (by decide) ?_
  refine zx_newI (q := 89) dd_Md_init_87 rfl ac_int rfl (by decide) (by decide) (by decide) ?_
  refine zx_heap (rl_new hp 12 rfl) ?_
  refine zx_put (q := 92) dd_Md_init_89 rfl fl_Md_45 (rl_at hp 0 rfl) rfl rfl (Nat.le_of_ble_eq_true rfl) (rl_up hp 0 (Nat.le_of_ble_eq_true rfl)) ?_
  refine zx_aload_n (q := 93) dd_Md_init_92 rfl rfl ?_
  refine zx_iconst (nI 5) (q := 94) dd_Md_init_93 rfl (by decide) ?_
  refine zx_newI (q := 96) dd_Md_init_94 rfl ac_int rfl (by decide) (by decide) (by decide) ?_
  refine zx_heap (rl_new hp 13 rfl) ?_
  refine zx_put (q := 99) dd_Md_init_96 rfl fl_Md_48 (rl_at hp 0 rfl) rfl rfl (Nat.le_of_ble_eq_true rfl) (rl_up hp 0 (Nat.le_of_ble_eq_true rfl)) ?_
  refine zx_aload_n (q := 100) dd_Md_init_99 rfl rfl ?_
  refine zx_iconst (nI 5) (q := 101) dd_Md_init_100 rfl (by decide) ?_
  refine zx_newI (q := 103) dd_Md_init_101 rfl ac_int rfl (by decide) (by decide) (by decide) ?_
  refine zx_heap (rl_new hp 14 rfl) ?_
  refine zx_put (q := 106) dd_Md_init_103 rfl fl_Md_51 (rl_at hp 0 rfl) rfl rfl (Nat.le_of_ble_eq_true rfl) (rl_up hp 0 (Nat.le_of_ble_eq_true rfl)) ?_
  refine zx_aload_n (q := 107) dd_Md_init_106 rfl rfl ?_
  refine zx_iconst (nI 5) (q := 108) dd_Md_init_107 rfl (by decide) ?_
  refine zx_newL (q := 110) dd_Md_init_108 rfl ac_long rfl (by decide) (by decide) (by decide) ?_
  refine zx_heap (rl_new hp 15 rfl) ?_
  refine zx_put (q := 113) dd_Md_init_110 rfl fl_Md_54 (rl_at hp 0 rfl) rfl rfl (Nat.le_of_ble_eq_true rfl) (rl_up hp 0 (Nat.le_of_ble_eq_true rfl)) ?_
  refine zx_aload_n (q := 114) dd_Md_init_113 rfl rfl ?_
  refine zx_iconst (nI 5) (q := 115) dd_Md_init_114 rfl (by decide) ?_
  refine zx_newI (q := 117) dd_Md_init_115 rfl ac_int rfl (by decide) (by decide) (by decide) ?_
  refine zx_heap (rl_new hp 16 rfl) ?_
  refine zx_put (q := 120) dd_Md_init_117 rfl fl_Md_57 (rl_at hp 0 rfl) rfl rfl (Nat.le_of_ble_eq_true rfl) (rl_up hp 0 (Nat.le_of_ble_eq_true rfl)) ?_
  refine zx_aload_n (q := 121) dd_Md_init_120 rfl rfl ?_
  refine zx_iconst (nI 5) (q := 122) dd_Md_init_121 rfl (by decide) ?_
  refine zx_newI (q := 124) dd_Md_init_122 rfl ac_int rfl (by decide) (by decide) (by decide) ?_
  refine zx_heap (rl_new hp 17 rfl) ?_
  refine zx_put (q := 127) dd_Md_init_124 rfl fl_Md_60 (rl_at hp 0 rfl) rfl rfl (Nat.le_of_ble_eq_true rfl) (rl_up hp 0 (Nat.le_of_ble_eq_true rfl)) ?_
  refine zx_aload_n (q := 128) dd_Md_init_127 rfl rfl ?_
  refine zx_iconst (nI 5) (q := 129) dd_Md_init_128 rfl (by decide) ?_
  refine zx_newI (q := 131) dd_Md_init_129 rfl ac_int rfl (by decide) (by decide) (by decide) ?_
  refine zx_heap (rl_new hp 18 rfl) ?_
  refine zx_put (q := 134) dd_Md_init_131 rfl fl_Md_63 (rl_at hp 0 rfl) rfl rfl (Nat.le_of_ble_eq_true rfl) (rl_up hp 0 (Nat.le_of_ble_eq_true rfl)) ?_
  refine zx_aload_n (q := 135) dd_Md_init_134 rfl rfl ?_
  refine zx_bipush (nI 10) (q := 137) dd_Md_init_135 rfl (by decide) ?_
  refine zx_newZ (q := 139) dd_Md_init_137 rfl ac_boolean rfl (by decide) (by decide) (by decide) ?_
  refine zx_heap (rl_new hp 19 rfl) ?_
  refine zx_put (q := 142) dd_Md_init_139 rfl fl_Md_66 (rl_at hp 0 rfl) rfl rfl (Nat.le_of_ble_eq_true rfl) (rl_up hp 0 (Nat.le_of_ble_eq_true rfl)) ?_
  refine zx_aload_n (q := 143) dd_Md_init_142 rfl rfl ?_
  refine zx_bipush (nI 10) (q := 145) dd_Md_init_143 rfl (by decide) ?_
  refine zx_newI (q := 147) dd_Md_init_145 rfl ac_int rfl (by decide) (by decide) (by decide) ?_
  refine zx_heap (rl_new hp 20 rfl) ?_
  refine zx_put (q := 150) dd_Md_init_147 rfl fl_Md_69 (rl_at hp 0 rfl) rfl rfl (Nat.le_of_ble_eq_true rfl) (rl_up hp 0 (Nat.le_of_ble_eq_true rfl)) ?_
  refine zx_aload_n (q := 151) dd_Md_init_150 rfl rfl ?_
  refine zx_bipush (nI 10) (q := 153) dd_Md_init_151 rfl (by decide) ?_
  refine zx_newI (q := 155) dd_Md_init_153 rfl ac_int rfl (by decide) (by decide) (by decide) ?_
  refine zx_heap (rl_new hp 21 rfl) ?_
  refine zx_put (q := 158) dd_Md_init_155 rfl fl_Md_72 (rl_at hp 0 rfl) rfl rfl (Nat.le_of_ble_eq_true rfl) (rl_up hp 0 (Nat.le_of_ble_eq_true rfl)) ?_
  refine zx_aload_n (q := 159) dd_Md_init_158 rfl rfl ?_
  refine zx_bipush (nI 10) (q := 161) dd_Md_init_159 rfl (by decide) ?_
  refine zx_newI (q := 163) dd_Md_init_161 rfl ac_int rfl (by decide) (by decide) (by decide) ?_
  refine zx_heap (rl_new hp 22 rfl) ?_
  refine zx_put (q := 166) dd_Md_init_163 rfl fl_Md_75 (rl_at hp 0 rfl) rfl rfl (Nat.le_of_ble_eq_true rfl) (rl_up hp 0 (Nat.le_of_ble_eq_true rfl)) ?_
  refine zx_aload_n (q := 167) dd_Md_init_166 rfl rfl ?_
  refine zx_bipush (nI 10) (q := 169) dd_Md_init_167 rfl (by decide) ?_
  refine zx_newI (q := 171) dd_Md_init_169 rfl ac_int rfl (by decide) (by decide) (by decide) ?_
  refine zx_heap (rl_new hp 23 rfl) ?_
  refine zx_put (q := 174) dd_Md_init_171 rfl fl_Md_78 (rl_at hp 0 rfl) rfl rfl (Nat.le_of_ble_eq_true rfl) (rl_up hp 0 (Nat.le_of_ble_eq_true rfl)) ?_
  refine zx_aload_n (q := 175) dd_Md_init_174 rfl rfl ?_
  refine zx_bipush (nI 10) (q := 177) dd_Md_init_175 rfl (by decide) ?_
  refine zx_newI (q := 179) dd_Md_init_177 rfl ac_int rfl (by decide) (by decide) (by decide) ?_
  refine zx_heap (rl_new hp 24 rfl) ?_
  refine zx_put (q := 182) dd_Md_init_179 rfl fl_Md_81 (rl_at hp 0 rfl) rfl rfl (Nat.le_of_ble_eq_true rfl) (rl_up hp 0 (Nat.le_of_ble_eq_true rfl)) ?_
  refine zx_aload_n (q := 183) dd_Md_init_182 rfl rfl ?_
  refine zx_bipush (nI 10) (q := 185) dd_Md_init_183 rfl (by decide) ?_
  refine zx_newI (q := 187) dd_Md_init_185 rfl ac_int rfl (by decide) (by decide) (by decide) ?_
  refine zx_heap (rl_new hp 25 rfl) ?_
  refine zx_put (q := 190) dd_Md_init_187 rfl fl_Md_84 (rl_at hp 0 rfl) rfl rfl (Nat.le_of_ble_eq_true rfl) (rl_up hp 0 (Nat.le_of_ble_eq_true rfl)) ?_
  refine zx_aload_n (q := 191) dd_Md_init_190 rfl rfl ?_
  refine zx_bipush (nI 10) (q := 193) dd_Md_init_191 rfl (by decide) ?_
  refine zx_newZ (q := 195) dd_Md_init_193 rfl ac_boolean rfl (by decide) (by decide) (by decide) ?_
  refine zx_heap (rl_new hp 26 rfl) ?_
  refine zx_put (q := 198) dd_Md_init_195 rfl fl_Md_87 (rl_at hp 0 rfl) rfl rfl (Nat.le_of_ble_eq_true rfl) (rl_up hp 0 (Nat.le_of_ble_eq_true rfl)) ?_
  refine zx_aload_n (q := 199) dd_Md_init_198 rfl rfl ?_
  refine zx_bipush (nI 10) (q := 201) dd_Md_init_199 rfl (by decide) ?_
  refine zx_newI (q := 203) dd_Md_init_201 rfl ac_int rfl (by decide) (by decide) (by decide) ?_
  refine zx_heap (rl_new hp 27 rfl) ?_
  refine zx_put (q := 206) dd_Md_init_203 rfl fl_Md_90 (rl_at hp 0 rfl) rfl rfl (Nat.le_of_ble_eq_true rfl) (rl_up hp 0 (Nat.le_of_ble_eq_true rfl)) ?_
  refine zx_aload_n (q := 207) dd_Md_init_206 rfl rfl ?_
  refine zx_sipush (nI 490) (q := 210) dd_Md_init_207 rfl (by decide) ?_
  refine zx_newI (q := 212) dd_Md_init_210 rfl ac_int rfl (by decide) (by decide) (by decide) ?_
  refine zx_heap (rl_new hp 28 rfl) ?_
  refine zx_put (q := 215) dd_Md_init_212 rfl fl_Md_93 (rl_at hp 0 rfl) rfl rfl (Nat.le_of_ble_eq_true rfl) (rl_up hp 0 (Nat.le_of_ble_eq_true rfl)) ?_
  refine zx_aload_n (q := 216) dd_Md_init_215 rfl rfl ?_
  refine zx_iconst (nI 5) (q := 217) dd_Md_init_216 rfl (by decide) ?_
  refine zx_newI (q := 219) dd_Md_init_217 rfl ac_int rfl (by decide) (by decide) (by decide) ?_
  refine zx_heap (rl_new hp 29 rfl) ?_
  refine zx_put (q := 222) dd_Md_init_219 rfl fl_Md_96 (rl_at hp 0 rfl) rfl rfl (Nat.le_of_ble_eq_true rfl) (rl_up hp 0 (Nat.le_of_ble_eq_true rfl)) ?_
  refine zx_aload_n (q := 223) dd_Md_init_222 rfl rfl ?_
  refine zx_bipush (nI 20) (q := 225) dd_Md_init_223 rfl (by decide) ?_
  refine zx_newI (q := 227) dd_Md_init_225 rfl ac_int rfl (by decide) (by decide) (by decide) ?_
  refine zx_heap (rl_new hp 30 rfl) ?_
  refine zx_put (q := 230) dd_Md_init_227 rfl fl_Md_99 (rl_at hp 0 rfl) rfl rfl (Nat.le_of_ble_eq_true rfl) (rl_up hp 0 (Nat.le_of_ble_eq_true rfl)) ?_
  refine zx_aload_n (q := 231) dd_Md_init_230 rfl rfl ?_
  refine zx_sipush (nI 245) (q := 234) dd_Md_init_231 rfl (by decide) ?_
  refine zx_newI (q := 236) dd_Md_init_234 rfl ac_int rfl (by decide) (by decide) (by decide) ?_
  refine zx_heap (rl_new hp 31 rfl) ?_
  refine zx_put (q := 239) dd_Md_init_236 rfl fl_Md_102 (rl_at hp 0 rfl) rfl rfl (Nat.le_of_ble_eq_true rfl) (rl_up hp 0 (Nat.le_of_ble_eq_true rfl)) ?_
  exact zx_vret dd_Md_init_239 rfl hq
