/-! The constructors: the heap as the list of the cells from b on. -/
def rl (b : Nat) (l : List va_E) : zxH := fun a => if a < b then none else l[a - b]?
theorem rl_at {b m : Nat} {pre l : List va_E} {e : va_E} (hp : pre.length = m) (i : Nat) (he : l[i]? = some e) : rl b (pre ++ l) (b + (m + i)) = some e := by
  unfold rl
  rw [if_neg (by omega), Nat.add_sub_cancel_left, List.getElem?_append_right (by omega), show m + i - pre.length = i by omega]
  exact he
theorem rl_up {b m : Nat} {pre l : List va_E} {e : va_E} (hp : pre.length = m) (i : Nat) (hi : i < l.length) : zx_up (rl b (pre ++ l)) (b + (m + i)) e = rl b (pre ++ l.set i e) := by
  funext q
  unfold zx_up rl
  by_cases hq : q = b + (m + i)
  · subst hq
    rw [if_pos rfl, if_neg (by omega), Nat.add_sub_cancel_left, List.getElem?_append_right (by omega), show m + i - pre.length = i by omega, List.getElem?_set_self hi]
  · rw [if_neg hq]
    by_cases hb : q < b
    · rw [if_pos hb, if_pos hb]
    · rw [if_neg hb, if_neg hb]
      by_cases hl : q - b < pre.length
      · rw [List.getElem?_append_left hl, List.getElem?_append_left hl]
      · rw [List.getElem?_append_right (by omega), List.getElem?_append_right (by omega), List.getElem?_set_ne (by omega)]
theorem rl_new {b m : Nat} {pre l : List va_E} {e : va_E} (hp : pre.length = m) (k : Nat) (hk : l.length = k) : zx_up (rl b (pre ++ l)) (b + (m + k)) e = rl b (pre ++ (l ++ [e])) := by
  funext q
  unfold zx_up rl
  by_cases hq : q = b + (m + k)
  · subst hq
    rw [if_pos rfl, if_neg (by omega), Nat.add_sub_cancel_left, List.getElem?_append_right (by omega), show m + k - pre.length = k by omega, List.getElem?_append_right (by omega), show k - l.length = 0 by omega]
    rfl
  · rw [if_neg hq]
    by_cases hb : q < b
    · rw [if_pos hb, if_pos hb]
    · rw [if_neg hb, if_neg hb]
      by_cases hl : q - b < pre.length
      · rw [List.getElem?_append_left hl, List.getElem?_append_left hl]
      · rw [List.getElem?_append_right (by omega), List.getElem?_append_right (by omega)]
        by_cases hg : q - b - pre.length < l.length
        · rw [List.getElem?_append_left hg]
        · rw [List.getElem?_append_right (by omega)]
          have h1 : l[q - b - pre.length]? = none := List.getElem?_eq_none (by omega)
          have h2 : ([e] : List va_E)[q - b - pre.length - l.length]? = none := List.getElem?_eq_none (by simp; omega)
          rw [h1, h2]
theorem rl_cut {b : Nat} {pre l : List va_E} (k : Nat) : rl b (pre ++ l) = rl b ((pre ++ l.take k) ++ l.drop k) := by rw [List.append_assoc, List.take_append_drop]
theorem rl_join {b : Nat} {pre l1 l2 : List va_E} : rl b ((pre ++ l1) ++ l2) = rl b (pre ++ (l1 ++ l2)) := by rw [List.append_assoc]
theorem rl_len {m k : Nat} {pre l : List va_E} (hp : pre.length = m) (hk : (l.take k).length = k) : (pre ++ l.take k).length = m + k := by rw [List.length_append, hk, hp]
set_option maxRecDepth 100000 in
set_option maxHeartbeats 4000000 in
theorem ok_Ms_init {E : zxE} {b m : Nat} {pre : List va_E} {Q : Option Value → zxH → Nat → Prop} (hp : pre.length = m) (hq : Q none (rl b (pre ++ [.inr (3, [.ref (b + (m + 1)), .int 0, .int 0, .int 0, .int 0]), .inl (1, 7, .inr (.inl (fun _ => 0)))])) (b + (m + 2))) : zx_Ok E my_Ms_init mi_Ms_init [.ref (b + m)] (rl b (pre ++ [.inr (3, [.null, .int 0, .int 0, .int 0, .int 0])])) (b + (m + 1)) Q := by
  refine zx_start [some (.ref (b + m))] (by decide) rfl rfl (Nat.le_of_ble_eq_true rfl) rfl ?_
  refine zx_aload_n (q := 1) dd_Ms_init_0 rfl rfl ?_
  refine zx_objInit (q := 4) dd_Ms_init_1 rfl cw_Ms_obj (by decide) (Nat.le_of_ble_eq_true rfl) ?_
  refine zx_aload_n (q := 5) dd_Ms_init_4 rfl rfl ?_
  refine zx_bipush (nI 7) (q := 7) dd_Ms_init_5 rfl (by decide) ?_
  refine zx_newL (q := 9) dd_Ms_init_7 rfl ac_long rfl (by decide) (by decide) (by decide) ?_
  refine zx_heap (rl_new hp 1 rfl) ?_
  refine zx_putF (q := 12) dd_Ms_init_9 rfl fl_Ms_9 rfl ⟨_, rfl, rfl⟩ (rl_at hp 0 rfl) rfl rfl (Nat.le_of_ble_eq_true rfl) (rl_up hp 0 (Nat.le_of_ble_eq_true rfl)) ?_
  exact zx_vret dd_Ms_init_12 rfl hq
set_option maxRecDepth 100000 in
set_option maxHeartbeats 4000000 in
theorem ok_St_init {E : zxE} {b m : Nat} {pre : List va_E} {Q : Option Value → zxH → Nat → Prop} {n : Nat} {k : Int32} (hp : pre.length = m) (hq : Q none (rl b (pre ++ [.inr (5, [.int k, .int 0, .int 0])])) n) : zx_Ok E my_St_init mi_St_init [.ref (b + m), .int k] (rl b (pre ++ [.inr (5, [.int 0, .int 0, .int 0])])) n Q := by
  refine zx_start [some (.ref (b + m)), some (.int k)] (by decide) rfl rfl (Nat.le_of_ble_eq_true rfl) rfl ?_
  refine zx_aload_n (q := 1) dd_St_init_0 rfl rfl ?_
  refine zx_objInit (q := 4) dd_St_init_1 rfl cw_St_obj (by decide) (Nat.le_of_ble_eq_true rfl) ?_
  refine zx_aload_n (q := 5) dd_St_init_4 rfl rfl ?_
  refine zx_iload_n (q := 6) dd_St_init_5 rfl rfl ?_
  refine zx_putF (q := 9) dd_St_init_6 rfl fl_St_7 rfl ⟨_, rfl, rfl⟩ (rl_at hp 0 rfl) rfl rfl (Nat.le_of_ble_eq_true rfl) (rl_up hp 0 (Nat.le_of_ble_eq_true rfl)) ?_
  exact zx_vret dd_St_init_9 rfl hq
set_option maxRecDepth 100000 in
set_option maxHeartbeats 4000000 in
theorem ok_Ou_init {E : zxE} {b m : Nat} {pre : List va_E} {Q : Option Value → zxH → Nat → Prop} {n p1 p2 : Nat} (hp : pre.length = m) (hq : Q none (rl b (pre ++ [.inr (4, [.ref p1, .ref p2, .int (nI 0), .int 0, .int 0, .int 0, .int 0, .long 0, .int 0, .long pc_NEVER])])) n) : zx_Ok E my_Ou_init mi_Ou_init [.ref (b + m), .ref p1, .ref p2] (rl b (pre ++ [.inr (4, [.null, .null, .int 0, .int 0, .int 0, .int 0, .int 0, .long 0, .int 0, .long 0])])) n Q := by
  refine zx_start [some (.ref (b + m)), some (.ref p1), some (.ref p2)] (by decide) rfl rfl (Nat.le_of_ble_eq_true rfl) rfl ?_
  refine zx_aload_n (q := 1) dd_Ou_init_0 rfl rfl ?_
  refine zx_objInit (q := 4) dd_Ou_init_1 rfl cw_Ou_obj (by decide) (Nat.le_of_ble_eq_true rfl) ?_
  refine zx_aload_n (q := 5) dd_Ou_init_4 rfl rfl ?_
  refine zx_iconst (nI 0) (q := 6) dd_Ou_init_5 rfl (by decide) ?_
  refine zx_put (q := 9) dd_Ou_init_6 rfl fl_Ou_9 (rl_at hp 0 rfl) rfl rfl (Nat.le_of_ble_eq_true rfl) (rl_up hp 0 (Nat.le_of_ble_eq_true rfl)) ?_
  refine zx_aload_n (q := 10) dd_Ou_init_9 rfl rfl ?_
  refine zx_ldc2 _ (q := 13) dd_Ou_init_10 rfl kk_Ou_15 ?_
  refine zx_put (q := 16) dd_Ou_init_13 rfl fl_Ou_17 (rl_at hp 0 rfl) rfl rfl (Nat.le_of_ble_eq_true rfl) (rl_up hp 0 (Nat.le_of_ble_eq_true rfl)) ?_
  refine zx_aload_n (q := 17) dd_Ou_init_16 rfl rfl ?_
  refine zx_aload_n (q := 18) dd_Ou_init_17 rfl rfl ?_
  refine zx_putF (q := 21) dd_Ou_init_18 rfl fl_Ou_21 rfl ⟨_, rfl, rfl⟩ (rl_at hp 0 rfl) rfl rfl (Nat.le_of_ble_eq_true rfl) (rl_up hp 0 (Nat.le_of_ble_eq_true rfl)) ?_
  refine zx_aload_n (q := 22) dd_Ou_init_21 rfl rfl ?_
  refine zx_aload_n (q := 23) dd_Ou_init_22 rfl rfl ?_
  refine zx_putF (q := 26) dd_Ou_init_23 rfl fl_Ou_25 rfl ⟨_, rfl, rfl⟩ (rl_at hp 0 rfl) rfl rfl (Nat.le_of_ble_eq_true rfl) (rl_up hp 0 (Nat.le_of_ble_eq_true rfl)) ?_
  exact zx_vret dd_Ou_init_26 rfl hq
set_option maxRecDepth 100000 in
set_option maxHeartbeats 4000000 in
theorem ok_In_init {E : zxE} {b m : Nat} {pre : List va_E} {Q : Option Value → zxH → Nat → Prop} {p1 p2 : Nat} (hp : pre.length = m) (hq : Q none (rl b (pre ++ [.inr (2, [.ref p1, .ref p2, .ref (b + (m + 1)), .int 0, .int 0, .int 0, .int 0, .int 0, .long pc_NEVER]), .inr (3, [.ref (b + (m + 2)), .int 0, .int 0, .int 0, .int 0]), .inl (1, 7, .inr (.inl (fun _ => 0)))])) (b + (m + 3))) : zx_Ok E my_In_init mi_In_init [.ref (b + m), .ref p1, .ref p2] (rl b (pre ++ [.inr (2, [.null, .null, .null, .int 0, .int 0, .int 0, .int 0, .int 0, .long 0])])) (b + (m + 1)) Q := by
  refine zx_start [some (.ref (b + m)), some (.ref p1), some (.ref p2)] (by decide) rfl rfl (Nat.le_of_ble_eq_true rfl) rfl ?_
  refine zx_aload_n (q := 1) dd_In_init_0 rfl rfl ?_
  refine zx_objInit (q := 4) dd_In_init_1 rfl cw_In_obj (by decide) (Nat.le_of_ble_eq_true rfl) ?_
  refine zx_aload_n (q := 5) dd_In_init_4 rfl rfl ?_
  refine zx_new (fs := [.null, .int 0, .int 0, .int 0, .int 0]) (q := 8) dd_In_init_5 rfl kc_Ms nw_In_9 (fun j hj => match j, hj with | 0, _ => rfl | 1, _ => rfl | 2, _ => rfl | 3, _ => rfl | 4, _ => rfl) (by decide) (by decide) ?_
  refine zx_heap (rl_new hp 1 rfl) ?_
  refine zx_dup (q := 9) dd_In_init_8 rfl rfl ?_
  refine zx_heap (rl_cut 1) ?_
  refine zx_callJ (As := []) (rest := [.ref (b + (m + 1)), .ref (b + m)]) (Q' := fun r h1 n1 => r = none ∧ zx_X E mi_In_init (zx_Y E mi_In_init Q) 12 _ [.ref (b + (m + 1)), .ref (b + m)] h1 n1 _ _) (q := 12) dd_In_init_9 rfl ci_In_init_11 rfl (Nat.le_of_ble_eq_true rfl) ⟨by decide, by decide⟩ (ok_Ms_init (rl_len hp rfl) ⟨rfl, ?_⟩) (fun r h1 n1 z => by obtain ⟨e, k⟩ := z; subst e; exact k)
  refine zx_heap rl_join ?_
  refine zx_putF (q := 15) dd_In_init_12 rfl fl_In_12 rfl ⟨_, rfl, rfl⟩ (rl_at hp 0 rfl) rfl rfl (Nat.le_of_ble_eq_true rfl) (rl_up hp 0 (Nat.le_of_ble_eq_true rfl)) ?_
  refine zx_aload_n (q := 16) dd_In_init_15 rfl rfl ?_
  refine zx_ldc2 _ (q := 19) dd_In_init_16 rfl kk_In_18 ?_
  refine zx_put (q := 22) dd_In_init_19 rfl fl_In_20 (rl_at hp 0 rfl) rfl rfl (Nat.le_of_ble_eq_true rfl) (rl_up hp 0 (Nat.le_of_ble_eq_true rfl)) ?_
  refine zx_aload_n (q := 23) dd_In_init_22 rfl rfl ?_
  refine zx_aload_n (q := 24) dd_In_init_23 rfl rfl ?_
  refine zx_putF (q := 27) dd_In_init_24 rfl fl_In_24 rfl ⟨_, rfl, rfl⟩ (rl_at hp 0 rfl) rfl rfl (Nat.le_of_ble_eq_true rfl) (rl_up hp 0 (Nat.le_of_ble_eq_true rfl)) ?_
  refine zx_aload_n (q := 28) dd_In_init_27 rfl rfl ?_
  refine zx_aload_n (q := 29) dd_In_init_28 rfl rfl ?_
  refine zx_putF (q := 32) dd_In_init_29 rfl fl_In_28 rfl ⟨_, rfl, rfl⟩ (rl_at hp 0 rfl) rfl rfl (Nat.le_of_ble_eq_true rfl) (rl_up hp 0 (Nat.le_of_ble_eq_true rfl)) ?_
  exact zx_vret dd_In_init_32 rfl hq
set_option maxRecDepth 100000 in
set_option maxHeartbeats 4000000 in
theorem ok_Bu_init {E : zxE} {b m : Nat} {pre : List va_E} {Q : Option Value → zxH → Nat → Prop} (hp : pre.length = m) (hq : Q none (rl b (pre ++ [.inr (0, [.ref (b + (m + 1)), .ref (b + (m + 2)), .ref (b + (m + 3)), .int 0, .int 0, .long 0]), .inl (0, 48, .inl (fun _ => 0)), .inl (1, 48, .inr (.inl (fun _ => 0))), .inl (0, 48, .inl (fun _ => 0))])) (b + (m + 4))) : zx_Ok E my_Bu_init mi_Bu_init [.ref (b + m)] (rl b (pre ++ [.inr (0, [.null, .null, .null, .int 0, .int 0, .long 0])])) (b + (m + 1)) Q := by
  refine zx_start [some (.ref (b + m))] (by decide) rfl rfl (Nat.le_of_ble_eq_true rfl) rfl ?_
  refine zx_aload_n (q := 1) dd_Bu_init_0 rfl rfl ?_
  refine zx_objInit (q := 4) dd_Bu_init_1 rfl cw_Bu_obj (by decide) (Nat.le_of_ble_eq_true rfl) ?_
  refine zx_aload_n (q := 5) dd_Bu_init_4 rfl rfl ?_
  refine zx_bipush (nI 48) (q := 7) dd_Bu_init_5 rfl (by decide) ?_
  refine zx_newI (q := 9) dd_Bu_init_7 rfl ac_int rfl (by decide) (by decide) (by decide) ?_
  refine zx_heap (rl_new hp 1 rfl) ?_
  refine zx_putF (q := 12) dd_Bu_init_9 rfl fl_Bu_9 rfl ⟨_, rfl, rfl⟩ (rl_at hp 0 rfl) rfl rfl (Nat.le_of_ble_eq_true rfl) (rl_up hp 0 (Nat.le_of_ble_eq_true rfl)) ?_
  refine zx_aload_n (q := 13) dd_Bu_init_12 rfl rfl ?_
  refine zx_bipush (nI 48) (q := 15) dd_Bu_init_13 rfl (by decide) ?_
  refine zx_newL (q := 17) dd_Bu_init_15 rfl ac_long rfl (by decide) (by decide) (by decide) ?_
  refine zx_heap (rl_new hp 2 rfl) ?_
  refine zx_putF (q := 20) dd_Bu_init_17 rfl fl_Bu_15 rfl ⟨_, rfl, rfl⟩ (rl_at hp 0 rfl) rfl rfl (Nat.le_of_ble_eq_true rfl) (rl_up hp 0 (Nat.le_of_ble_eq_true rfl)) ?_
  refine zx_aload_n (q := 21) dd_Bu_init_20 rfl rfl ?_
  refine zx_bipush (nI 48) (q := 23) dd_Bu_init_21 rfl (by decide) ?_
  refine zx_newI (q := 25) dd_Bu_init_23 rfl ac_int rfl (by decide) (by decide) (by decide) ?_
  refine zx_heap (rl_new hp 3 rfl) ?_
  refine zx_putF (q := 28) dd_Bu_init_25 rfl fl_Bu_19 rfl ⟨_, rfl, rfl⟩ (rl_at hp 0 rfl) rfl rfl (Nat.le_of_ble_eq_true rfl) (rl_up hp 0 (Nat.le_of_ble_eq_true rfl)) ?_
  exact zx_vret dd_Bu_init_28 rfl hq

