theorem fnL_len (b f : Nat) : (fnL b f).length = 13 := rfl
def zc_arr (b f : Nat) : Nat → Option Nat := fun i => if i < f then some (fa b i 0) else none
theorem zc_arr_s (b f : Nat) : va_up (zc_arr b f) f (some (fa b f 0)) = zc_arr b (f + 1) := by
  funext i
  unfold va_up zc_arr
  by_cases h : i = f
  · subst h; rw [if_pos rfl, if_pos (by omega)]
  · rw [if_neg h]
    by_cases g : i < f
    · rw [if_pos g, if_pos (by omega)]
    · rw [if_neg g, if_neg (by omega)]
theorem zc_arr_0 (b : Nat) : zc_arr b 0 = fun _ => none := by
  funext i
  unfold zc_arr
  rw [if_neg (by omega)]
/-- the cells ahead of the functions, when f of these stand -/
def hdL (b f : Nat) : List va_E := [.inr (6, [.ref (b + 1), .ref (b + 5)]), .inr (0, [.ref (b + 2), .ref (b + 3), .ref (b + 4), .int 0, .int 0, .long 0]), .inl (0, 48, .inl (fun _ => 0)), .inl (1, 48, .inr (.inl (fun _ => 0))), .inl (0, 48, .inl (fun _ => 0)), .inl (3, 5, .inr (.inr (.inr (.inr (zc_arr b f)))))]
def flL (b : Nat) : Nat → List va_E
  | 0 => []
  | f + 1 => flL b f ++ fnL b f
theorem flL_len (b : Nat) : ∀ f, (flL b f).length = 13 * f
  | 0 => rfl
  | f + 1 => by
    show (flL b f ++ fnL b f).length = _
    rw [List.length_append, flL_len b f, fnL_len]
    omega
theorem preL_len (b f : Nat) : (hdL b f ++ flL b f).length = 6 + 13 * f := by
  rw [List.length_append, flL_len]
  rfl
theorem fn_at (b f : Nat) : rl b (hdL b f ++ (flL b f ++ fnL b f)) (b + (6 + 13 * f + 0)) = some (zc_fn b f (gx zG0) 0) := by
  rw [← List.append_assoc]
  exact rl_at (preL_len b f) 0 rfl
theorem hdL_at {b f i : Nat} {X : List va_E} {e : va_E} (he : (hdL b f ++ X)[i]? = some e) : rl b (hdL b f ++ X) (b + i) = some e := by
  unfold rl
  rw [if_neg (by omega), Nat.add_sub_cancel_left]
  exact he
theorem hdL_up {b f : Nat} {X : List va_E} : zx_up (rl b (hdL b f ++ X)) (b + 5) (.inl (3, 5, .inr (.inr (.inr (.inr (va_up (zc_arr b f) f (some (fa b f 0)))))))) = rl b (hdL b (f + 1) ++ X) := by
  rw [zc_arr_s]
  have h := rl_up (b := b) (m := 0) (pre := []) (l := hdL b f ++ X) (e := .inl (3, 5, .inr (.inr (.inr (.inr (zc_arr b (f + 1))))))) rfl 5 (by show 5 < (hdL b f ++ X).length; rw [List.length_append]; show 5 < 6 + X.length; omega)
  exact h
set_option maxRecDepth 100000 in
set_option maxHeartbeats 4000000 in
theorem ok_Ab_init {E : zxE} {b : Nat} {Q : Option Value → zxH → Nat → Prop} (hq : Q none (rl b (hdL b 5 ++ flL b 5)) (b + 71)) : zx_Ok E my_Ab_init mi_Ab_init [.ref b] (rl b ([] ++ [.inr (6, [.null, .null])])) (b + 1) Q := by
  refine zx_start [some (.ref b), none] (by decide) rfl rfl (Nat.le_of_ble_eq_true rfl) rfl ?_
  refine zx_aload_n (q := 1) dd_Ab_init_0 rfl rfl ?_
  refine zx_objInit (q := 4) dd_Ab_init_1 rfl cw_Ab_obj (by decide) (Nat.le_of_ble_eq_true rfl) ?_
  refine zx_aload_n (q := 5) dd_Ab_init_4 rfl rfl ?_
  refine zx_new (fs := [.null, .null, .null, .int 0, .int 0, .long 0]) (q := 8) dd_Ab_init_5 rfl kc_Bu nw_Ab_9 (fun j hj => match j, hj with | 0, _ => rfl | 1, _ => rfl | 2, _ => rfl | 3, _ => rfl | 4, _ => rfl | 5, _ => rfl) (by decide) (by decide) ?_
  refine zx_hn (h' := rl b ([] ++ [.inr (6, [.null, .null]), .inr (0, [.null, .null, .null, .int 0, .int 0, .long 0])])) (b + (0 + 2)) ((rl_new (rfl : ([] : List va_E).length = 0) 1 rfl).trans rfl) rfl ?_
  refine zx_dup (q := 9) dd_Ab_init_8 rfl rfl ?_
  refine zx_callJ (As := []) (rest := [.ref (b + 1), .ref b]) (Q' := fun r h1 n1 => r = none ∧ zx_X E mi_Ab_init (zx_Y E mi_Ab_init Q) 12 _ [.ref (b + 1), .ref b] h1 n1 _ _) (q := 12) dd_Ab_init_9 rfl ci_Ab_init_11 rfl (Nat.le_of_ble_eq_true rfl) ⟨by decide, by decide⟩ (ok_Bu_init (m := 1) (pre := [.inr (6, [.null, .null])]) rfl ⟨rfl, ?_⟩) (fun r h1 n1 z => by obtain ⟨e, k⟩ := z; subst e; exact k)
  refine zx_hn (h' := rl b ([] ++ [.inr (6, [.null, .null]), .inr (0, [.ref (b + 2), .ref (b + 3), .ref (b + 4), .int 0, .int 0, .long 0]), .inl (0, 48, .inl (fun _ => 0)), .inl (1, 48, .inr (.inl (fun _ => 0))), .inl (0, 48, .inl (fun _ => 0))])) (b + 5) rfl rfl ?_
  refine zx_putF (h' := rl b ([] ++ [.inr (6, [.ref (b + 1), .null]), .inr (0, [.ref (b + 2), .ref (b + 3), .ref (b + 4), .int 0, .int 0, .long 0]), .inl (0, 48, .inl (fun _ => 0)), .inl (1, 48, .inr (.inl (fun _ => 0))), .inl (0, 48, .inl (fun _ => 0))])) (q := 15) dd_Ab_init_12 rfl fl_Ab_12 rfl ⟨_, rfl, rfl⟩ (rl_at (rfl : ([] : List va_E).length = 0) 0 rfl) rfl rfl (Nat.le_of_ble_eq_true rfl) ((rl_up (rfl : ([] : List va_E).length = 0) 0 (Nat.le_of_ble_eq_true rfl)).trans rfl) ?_
  refine zx_aload_n (q := 16) dd_Ab_init_15 rfl rfl ?_
  refine zx_iconst (nI 5) (q := 17) dd_Ab_init_16 rfl (by decide) ?_
  refine zx_newQ (kd := 3) (q := 20) dd_Ab_init_17 rfl (fun _ => rfl) na_Ab_16 rfl (by decide) (by decide) (by decide) ?_
  refine zx_hn (h' := rl b ([] ++ [.inr (6, [.ref (b + 1), .null]), .inr (0, [.ref (b + 2), .ref (b + 3), .ref (b + 4), .int 0, .int 0, .long 0]), .inl (0, 48, .inl (fun _ => 0)), .inl (1, 48, .inr (.inl (fun _ => 0))), .inl (0, 48, .inl (fun _ => 0)), .inl (3, 5, .inr (.inr (.inr (.inr (fun _ => none)))))])) (b + 6) ((rl_new (rfl : ([] : List va_E).length = 0) 5 rfl).trans rfl) rfl ?_
  refine zx_putF (h' := rl b ([] ++ [.inr (6, [.ref (b + 1), .ref (b + 5)]), .inr (0, [.ref (b + 2), .ref (b + 3), .ref (b + 4), .int 0, .int 0, .long 0]), .inl (0, 48, .inl (fun _ => 0)), .inl (1, 48, .inr (.inl (fun _ => 0))), .inl (0, 48, .inl (fun _ => 0)), .inl (3, 5, .inr (.inr (.inr (.inr (fun _ => none)))))])) (q := 23) dd_Ab_init_20 rfl fl_Ab_18 rfl ⟨_, rfl, rfl⟩ (rl_at (rfl : ([] : List va_E).length = 0) 0 rfl) rfl rfl (Nat.le_of_ble_eq_true rfl) ((rl_up (rfl : ([] : List va_E).length = 0) 0 (Nat.le_of_ble_eq_true rfl)).trans rfl) ?_
  refine zx_heap (h' := rl b (hdL b 0 ++ flL b 0)) (by unfold hdL; rw [zc_arr_0]; rfl) ?_
  refine zx_iconst (nI 0) (q := 24) dd_Ab_init_23 rfl (by decide) ?_
  refine zx_istore_1 (q := 25) dd_Ab_init_24 rfl (by decide) rfl ?_
  refine zx_iload_n (q := 26) dd_Ab_init_25 rfl rfl ?_
  refine zx_iconst (nI 5) (q := 27) dd_Ab_init_26 rfl (by decide) ?_
  refine zx_icmp_ge 61 (q := 30) dd_Ab_init_27 rfl (by decide) (fun hc => absurd hc (by decide)) (fun _ => ?_)
  refine zx_aload_n (q := 31) dd_Ab_init_30 rfl rfl ?_
  refine zx_get (q := 34) dd_Ab_init_31 rfl fl_Ab_18 (hdL_at (i := 0) rfl) rfl ?_
  refine zx_iload_n (q := 35) dd_Ab_init_34 rfl rfl ?_
  refine zx_hn (h' := rl b ((hdL b 0 ++ flL b 0) ++ [])) (b + (6 + 13 * 0 + 0)) (by rw [List.append_nil]) rfl ?_
  refine zx_new (fs := [.null, .null, .null, .null, .null, .null, .int 0, .int 0, .long 0, .long 0]) (q := 38) dd_Ab_init_35 rfl kc_Fu nw_Ab_16 (fun j hj => match j, hj with | 0, _ => rfl | 1, _ => rfl | 2, _ => rfl | 3, _ => rfl | 4, _ => rfl | 5, _ => rfl | 6, _ => rfl | 7, _ => rfl | 8, _ => rfl | 9, _ => rfl) (by decide) (by decide) ?_
  refine zx_hn (h' := rl b ((hdL b 0 ++ flL b 0) ++ [.inr (1, [.null, .null, .null, .null, .null, .null, .int 0, .int 0, .long 0, .long 0])])) (b + (6 + 13 * 0 + 1)) ((rl_new (preL_len b 0) 0 rfl).trans rfl) rfl ?_
  refine zx_dup (q := 39) dd_Ab_init_38 rfl rfl ?_
  refine zx_aload_n (q := 40) dd_Ab_init_39 rfl rfl ?_
  refine zx_get (q := 43) dd_Ab_init_40 rfl fl_Ab_12 (by rw [List.append_assoc]; exact hdL_at (i := 0) rfl) rfl ?_
  refine zx_new (fs := [.int 0, .int 0, .int 0]) (q := 46) dd_Ab_init_43 rfl kc_St nw_Ab_22 (fun j hj => match j, hj with | 0, _ => rfl | 1, _ => rfl | 2, _ => rfl) (by decide) (by decide) ?_
  refine zx_hn (h' := rl b ((hdL b 0 ++ flL b 0) ++ [.inr (1, [.null, .null, .null, .null, .null, .null, .int 0, .int 0, .long 0, .long 0]), .inr (5, [.int 0, .int 0, .int 0])])) (b + (6 + 13 * 0 + 2)) ((rl_new (preL_len b 0) 1 rfl).trans rfl) rfl ?_
  refine zx_dup (q := 47) dd_Ab_init_46 rfl rfl ?_
  refine zx_iload_n (q := 48) dd_Ab_init_47 rfl rfl ?_
  refine zx_heap (h' := rl b (((hdL b 0 ++ flL b 0) ++ ([.inr (1, [.null, .null, .null, .null, .null, .null, .int 0, .int 0, .long 0, .long 0])] : List va_E)) ++ ([.inr (5, [.int 0, .int 0, .int 0])] : List va_E))) (rl_join (l1 := [.inr (1, [.null, .null, .null, .null, .null, .null, .int 0, .int 0, .long 0, .long 0])]) (l2 := [.inr (5, [.int 0, .int 0, .int 0])])).symm ?_
  refine zx_callI (As := [.int (nI 0)]) (rest := [.ref (b + (6 + 13 * 0 + 1)), .ref (b + 1), .ref (b + (6 + 13 * 0 + 0)), .ref (b + (6 + 13 * 0 + 0)), .int (nI 0), .ref (b + 5)]) (Q' := fun r h1 n1 => r = none ∧ zx_X E mi_Ab_init (zx_Y E mi_Ab_init Q) 51 _ [.ref (b + (6 + 13 * 0 + 1)), .ref (b + 1), .ref (b + (6 + 13 * 0 + 0)), .ref (b + (6 + 13 * 0 + 0)), .int (nI 0), .ref (b + 5)] h1 n1 _ _) (q := 51) dd_Ab_init_48 rfl ci_Ab_init_24 rfl (Nat.le_of_ble_eq_true rfl) ⟨by decide, by decide⟩ (ok_St_init (m := 6 + 13 * 0 + 1) (by rw [List.length_append, preL_len]; rfl) ⟨rfl, ?_⟩) (fun r h1 n1 z => by obtain ⟨e, k⟩ := z; subst e; exact k)
  refine zx_hn (h' := rl b ((hdL b 0 ++ flL b 0) ++ [.inr (1, [.null, .null, .null, .null, .null, .null, .int 0, .int 0, .long 0, .long 0]), .inr (5, [.int (nI 0), .int 0, .int 0])])) (b + (6 + 13 * 0 + 2)) (rl_join.trans rfl) rfl ?_
  refine zx_callI (As := [.ref (b + 1), .ref (b + (6 + 13 * 0 + 1))]) (rest := [.ref (b + (6 + 13 * 0 + 0)), .int (nI 0), .ref (b + 5)]) (Q' := fun r h1 n1 => r = none ∧ zx_X E mi_Ab_init (zx_Y E mi_Ab_init Q) 54 _ [.ref (b + (6 + 13 * 0 + 0)), .int (nI 0), .ref (b + 5)] h1 n1 _ _) (q := 54) dd_Ab_init_51 rfl ci_Ab_init_27 rfl (Nat.le_of_ble_eq_true rfl) ⟨by decide, by decide⟩ (ok_Fu_init (f := 0) (m := 6 + 13 * 0) rfl (preL_len b 0) ⟨rfl, ?_⟩) (fun r h1 n1 z => by obtain ⟨e, k⟩ := z; subst e; exact k)
  refine zx_hn (h' := rl b (hdL b 0 ++ (flL b 0 ++ fnL b 0))) (b + (6 + 13 * (0 + 1))) (by rw [List.append_assoc]) rfl ?_
  refine zx_aast (h' := rl b (hdL b (0 + 1) ++ flL b (0 + 1))) (q := 55) dd_Ab_init_54 rfl (fun _ => rfl) (hdL_at (i := 5) rfl) (fn_at b 0) rfl rfl rfl (by decide) (by decide) hdL_up ?_
  refine zx_iincN_1 dd_Ab_init_55 rfl (by decide) rfl ?_
  refine zx_goto 25 dd_Ab_init_58 (by decide) ?_
  refine zx_iload_n (q := 26) dd_Ab_init_25 rfl rfl ?_
  refine zx_iconst (nI 5) (q := 27) dd_Ab_init_26 rfl (by decide) ?_
  refine zx_icmp_ge 61 (q := 30) dd_Ab_init_27 rfl (by decide) (fun hc => absurd hc (by decide)) (fun _ => ?_)
  refine zx_aload_n (q := 31) dd_Ab_init_30 rfl rfl ?_
  refine zx_get (q := 34) dd_Ab_init_31 rfl fl_Ab_18 (hdL_at (i := 0) rfl) rfl ?_
  refine zx_iload_n (q := 35) dd_Ab_init_34 rfl rfl ?_
  refine zx_hn (h' := rl b ((hdL b 1 ++ flL b 1) ++ [])) (b + (6 + 13 * 1 + 0)) (by rw [List.append_nil]) rfl ?_
  refine zx_new (fs := [.null, .null, .null, .null, .null, .null, .int 0, .int 0, .long 0, .long 0]) (q := 38) dd_Ab_init_35 rfl kc_Fu nw_Ab_16 (fun j hj => match j, hj with | 0, _ => rfl | 1, _ => rfl | 2, _ => rfl | 3, _ => rfl | 4, _ => rfl | 5, _ => rfl | 6, _ => rfl | 7, _ => rfl | 8, _ => rfl | 9, _ => rfl) (by decide) (by decide) ?_
  refine zx_hn (h' := rl b ((hdL b 1 ++ flL b 1) ++ [.inr (1, [.null, .null, .null, .null, .null, .null, .int 0, .int 0, .long 0, .long 0])])) (b + (6 + 13 * 1 + 1)) ((rl_new (preL_len b 1) 0 rfl).trans rfl) rfl ?_
  refine zx_dup (q := 39) dd_Ab_init_38 rfl rfl ?_
  refine zx_aload_n (q := 40) dd_Ab_init_39 rfl rfl ?_
  refine zx_get (q := 43) dd_Ab_init_40 rfl fl_Ab_12 (by rw [List.append_assoc]; exact hdL_at (i := 0) rfl) rfl ?_
  refine zx_new (fs := [.int 0, .int 0, .int 0]) (q := 46) dd_Ab_init_43 rfl kc_St nw_Ab_22 (fun j hj => match j, hj with | 0, _ => rfl | 1, _ => rfl | 2, _ => rfl) (by decide) (by decide) ?_
  refine zx_hn (h' := rl b ((hdL b 1 ++ flL b 1) ++ [.inr (1, [.null, .null, .null, .null, .null, .null, .int 0, .int 0, .long 0, .long 0]), .inr (5, [.int 0, .int 0, .int 0])])) (b + (6 + 13 * 1 + 2)) ((rl_new (preL_len b 1) 1 rfl).trans rfl) rfl ?_
  refine zx_dup (q := 47) dd_Ab_init_46 rfl rfl ?_
  refine zx_iload_n (q := 48) dd_Ab_init_47 rfl rfl ?_
  refine zx_heap (h' := rl b (((hdL b 1 ++ flL b 1) ++ ([.inr (1, [.null, .null, .null, .null, .null, .null, .int 0, .int 0, .long 0, .long 0])] : List va_E)) ++ ([.inr (5, [.int 0, .int 0, .int 0])] : List va_E))) (rl_join (l1 := [.inr (1, [.null, .null, .null, .null, .null, .null, .int 0, .int 0, .long 0, .long 0])]) (l2 := [.inr (5, [.int 0, .int 0, .int 0])])).symm ?_
  refine zx_callI (As := [.int (nI 1)]) (rest := [.ref (b + (6 + 13 * 1 + 1)), .ref (b + 1), .ref (b + (6 + 13 * 1 + 0)), .ref (b + (6 + 13 * 1 + 0)), .int (nI 1), .ref (b + 5)]) (Q' := fun r h1 n1 => r = none ∧ zx_X E mi_Ab_init (zx_Y E mi_Ab_init Q) 51 _ [.ref (b + (6 + 13 * 1 + 1)), .ref (b + 1), .ref (b + (6 + 13 * 1 + 0)), .ref (b + (6 + 13 * 1 + 0)), .int (nI 1), .ref (b + 5)] h1 n1 _ _) (q := 51) dd_Ab_init_48 rfl ci_Ab_init_24 rfl (Nat.le_of_ble_eq_true rfl) ⟨by decide, by decide⟩ (ok_St_init (m := 6 + 13 * 1 + 1) (by rw [List.length_append, preL_len]; rfl) ⟨rfl, ?_⟩) (fun r h1 n1 z => by obtain ⟨e, k⟩ := z; subst e; exact k)
  refine zx_hn (h' := rl b ((hdL b 1 ++ flL b 1) ++ [.inr (1, [.null, .null, .null, .null, .null, .null, .int 0, .int 0, .long 0, .long 0]), .inr (5, [.int (nI 1), .int 0, .int 0])])) (b + (6 + 13 * 1 + 2)) (rl_join.trans rfl) rfl ?_
  refine zx_callI (As := [.ref (b + 1), .ref (b + (6 + 13 * 1 + 1))]) (rest := [.ref (b + (6 + 13 * 1 + 0)), .int (nI 1), .ref (b + 5)]) (Q' := fun r h1 n1 => r = none ∧ zx_X E mi_Ab_init (zx_Y E mi_Ab_init Q) 54 _ [.ref (b + (6 + 13 * 1 + 0)), .int (nI 1), .ref (b + 5)] h1 n1 _ _) (q := 54) dd_Ab_init_51 rfl ci_Ab_init_27 rfl (Nat.le_of_ble_eq_true rfl) ⟨by decide, by decide⟩ (ok_Fu_init (f := 1) (m := 6 + 13 * 1) rfl (preL_len b 1) ⟨rfl, ?_⟩) (fun r h1 n1 z => by obtain ⟨e, k⟩ := z; subst e; exact k)
  refine zx_hn (h' := rl b (hdL b 1 ++ (flL b 1 ++ fnL b 1))) (b + (6 + 13 * (1 + 1))) (by rw [List.append_assoc]) rfl ?_
  refine zx_aast (h' := rl b (hdL b (1 + 1) ++ flL b (1 + 1))) (q := 55) dd_Ab_init_54 rfl (fun _ => rfl) (hdL_at (i := 5) rfl) (fn_at b 1) rfl rfl rfl (by decide) (by decide) hdL_up ?_
  refine zx_iincN_1 dd_Ab_init_55 rfl (by decide) rfl ?_
  refine zx_goto 25 dd_Ab_init_58 (by decide) ?_
  refine zx_iload_n (q := 26) dd_Ab_init_25 rfl rfl ?_
  refine zx_iconst (nI 5) (q := 27) dd_Ab_init_26 rfl (by decide) ?_
  refine zx_icmp_ge 61 (q := 30) dd_Ab_init_27 rfl (by decide) (fun hc => absurd hc (by decide)) (fun _ => ?_)
  refine zx_aload_n (q := 31) dd_Ab_init_30 rfl rfl ?_
  refine zx_get (q := 34) dd_Ab_init_31 rfl fl_Ab_18 (hdL_at (i := 0) rfl) rfl ?_
  refine zx_iload_n (q := 35) dd_Ab_init_34 rfl rfl ?_
  refine zx_hn (h' := rl b ((hdL b 2 ++ flL b 2) ++ [])) (b + (6 + 13 * 2 + 0)) (by rw [List.append_nil]) rfl ?_
  refine zx_new (fs := [.null, .null, .null, .null, .null, .null, .int 0, .int 0, .long 0, .long 0]) (q := 38) dd_Ab_init_35 rfl kc_Fu nw_Ab_16 (fun j hj => match j, hj with | 0, _ => rfl | 1, _ => rfl | 2, _ => rfl | 3, _ => rfl | 4, _ => rfl | 5, _ => rfl | 6, _ => rfl | 7, _ => rfl | 8, _ => rfl | 9, _ => rfl) (by decide) (by decide) ?_
  refine zx_hn (h' := rl b ((hdL b 2 ++ flL b 2) ++ [.inr (1, [.null, .null, .null, .null, .null, .null, .int 0, .int 0, .long 0, .long 0])])) (b + (6 + 13 * 2 + 1)) ((rl_new (preL_len b 2) 0 rfl).trans rfl) rfl ?_
  refine zx_dup (q := 39) dd_Ab_init_38 rfl rfl ?_
  refine zx_aload_n (q := 40) dd_Ab_init_39 rfl rfl ?_
  refine zx_get (q := 43) dd_Ab_init_40 rfl fl_Ab_12 (by rw [List.append_assoc]; exact hdL_at (i := 0) rfl) rfl ?_
  refine zx_new (fs := [.int 0, .int 0, .int 0]) (q := 46) dd_Ab_init_43 rfl kc_St nw_Ab_22 (fun j hj => match j, hj with | 0, _ => rfl | 1, _ => rfl | 2, _ => rfl) (by decide) (by decide) ?_
  refine zx_hn (h' := rl b ((hdL b 2 ++ flL b 2) ++ [.inr (1, [.null, .null, .null, .null, .null, .null, .int 0, .int 0, .long 0, .long 0]), .inr (5, [.int 0, .int 0, .int 0])])) (b + (6 + 13 * 2 + 2)) ((rl_new (preL_len b 2) 1 rfl).trans rfl) rfl ?_
  refine zx_dup (q := 47) dd_Ab_init_46 rfl rfl ?_
  refine zx_iload_n (q := 48) dd_Ab_init_47 rfl rfl ?_
  refine zx_heap (h' := rl b (((hdL b 2 ++ flL b 2) ++ ([.inr (1, [.null, .null, .null, .null, .null, .null, .int 0, .int 0, .long 0, .long 0])] : List va_E)) ++ ([.inr (5, [.int 0, .int 0, .int 0])] : List va_E))) (rl_join (l1 := [.inr (1, [.null, .null, .null, .null, .null, .null, .int 0, .int 0, .long 0, .long 0])]) (l2 := [.inr (5, [.int 0, .int 0, .int 0])])).symm ?_
  refine zx_callI (As := [.int (nI 2)]) (rest := [.ref (b + (6 + 13 * 2 + 1)), .ref (b + 1), .ref (b + (6 + 13 * 2 + 0)), .ref (b + (6 + 13 * 2 + 0)), .int (nI 2), .ref (b + 5)]) (Q' := fun r h1 n1 => r = none ∧ zx_X E mi_Ab_init (zx_Y E mi_Ab_init Q) 51 _ [.ref (b + (6 + 13 * 2 + 1)), .ref (b + 1), .ref (b + (6 + 13 * 2 + 0)), .ref (b + (6 + 13 * 2 + 0)), .int (nI 2), .ref (b + 5)] h1 n1 _ _) (q := 51) dd_Ab_init_48 rfl ci_Ab_init_24 rfl (Nat.le_of_ble_eq_true rfl) ⟨by decide, by decide⟩ (ok_St_init (m := 6 + 13 * 2 + 1) (by rw [List.length_append, preL_len]; rfl) ⟨rfl, ?_⟩) (fun r h1 n1 z => by obtain ⟨e, k⟩ := z; subst e; exact k)
  refine zx_hn (h' := rl b ((hdL b 2 ++ flL b 2) ++ [.inr (1, [.null, .null, .null, .null, .null, .null, .int 0, .int 0, .long 0, .long 0]), .inr (5, [.int (nI 2), .int 0, .int 0])])) (b + (6 + 13 * 2 + 2)) (rl_join.trans rfl) rfl ?_
  refine zx_callI (As := [.ref (b + 1), .ref (b + (6 + 13 * 2 + 1))]) (rest := [.ref (b + (6 + 13 * 2 + 0)), .int (nI 2), .ref (b + 5)]) (Q' := fun r h1 n1 => r = none ∧ zx_X E mi_Ab_init (zx_Y E mi_Ab_init Q) 54 _ [.ref (b + (6 + 13 * 2 + 0)), .int (nI 2), .ref (b + 5)] h1 n1 _ _) (q := 54) dd_Ab_init_51 rfl ci_Ab_init_27 rfl (Nat.le_of_ble_eq_true rfl) ⟨by decide, by decide⟩ (ok_Fu_init (f := 2) (m := 6 + 13 * 2) rfl (preL_len b 2) ⟨rfl, ?_⟩) (fun r h1 n1 z => by obtain ⟨e, k⟩ := z; subst e; exact k)
  refine zx_hn (h' := rl b (hdL b 2 ++ (flL b 2 ++ fnL b 2))) (b + (6 + 13 * (2 + 1))) (by rw [List.append_assoc]) rfl ?_
  refine zx_aast (h' := rl b (hdL b (2 + 1) ++ flL b (2 + 1))) (q := 55) dd_Ab_init_54 rfl (fun _ => rfl) (hdL_at (i := 5) rfl) (fn_at b 2) rfl rfl rfl (by decide) (by decide) hdL_up ?_
  refine zx_iincN_1 dd_Ab_init_55 rfl (by decide) rfl ?_
  refine zx_goto 25 dd_Ab_init_58 (by decide) ?_
  refine zx_iload_n (q := 26) dd_Ab_init_25 rfl rfl ?_
  refine zx_iconst (nI 5) (q := 27) dd_Ab_init_26 rfl (by decide) ?_
  refine zx_icmp_ge 61 (q := 30) dd_Ab_init_27 rfl (by decide) (fun hc => absurd hc (by decide)) (fun _ => ?_)
  refine zx_aload_n (q := 31) dd_Ab_init_30 rfl rfl ?_
  refine zx_get (q := 34) dd_Ab_init_31 rfl fl_Ab_18 (hdL_at (i := 0) rfl) rfl ?_
  refine zx_iload_n (q := 35) dd_Ab_init_34 rfl rfl ?_
  refine zx_hn (h' := rl b ((hdL b 3 ++ flL b 3) ++ [])) (b + (6 + 13 * 3 + 0)) (by rw [List.append_nil]) rfl ?_
  refine zx_new (fs := [.null, .null, .null, .null, .null, .null, .int 0, .int 0, .long 0, .long 0]) (q := 38) dd_Ab_init_35 rfl kc_Fu nw_Ab_16 (fun j hj => match j, hj with | 0, _ => rfl | 1, _ => rfl | 2, _ => rfl | 3, _ => rfl | 4, _ => rfl | 5, _ => rfl | 6, _ => rfl | 7, _ => rfl | 8, _ => rfl | 9, _ => rfl) (by decide) (by decide) ?_
  refine zx_hn (h' := rl b ((hdL b 3 ++ flL b 3) ++ [.inr (1, [.null, .null, .null, .null, .null, .null, .int 0, .int 0, .long 0, .long 0])])) (b + (6 + 13 * 3 + 1)) ((rl_new (preL_len b 3) 0 rfl).trans rfl) rfl ?_
  refine zx_dup (q := 39) dd_Ab_init_38 rfl rfl ?_
  refine zx_aload_n (q := 40) dd_Ab_init_39 rfl rfl ?_
  refine zx_get (q := 43) dd_Ab_init_40 rfl fl_Ab_12 (by rw [List.append_assoc]; exact hdL_at (i := 0) rfl) rfl ?_
  refine zx_new (fs := [.int 0, .int 0, .int 0]) (q := 46) dd_Ab_init_43 rfl kc_St nw_Ab_22 (fun j hj => match j, hj with | 0, _ => rfl | 1, _ => rfl | 2, _ => rfl) (by decide) (by decide) ?_
  refine zx_hn (h' := rl b ((hdL b 3 ++ flL b 3) ++ [.inr (1, [.null, .null, .null, .null, .null, .null, .int 0, .int 0, .long 0, .long 0]), .inr (5, [.int 0, .int 0, .int 0])])) (b + (6 + 13 * 3 + 2)) ((rl_new (preL_len b 3) 1 rfl).trans rfl) rfl ?_
  refine zx_dup (q := 47) dd_Ab_init_46 rfl rfl ?_
  refine zx_iload_n (q := 48) dd_Ab_init_47 rfl rfl ?_
  refine zx_heap (h' := rl b (((hdL b 3 ++ flL b 3) ++ ([.inr (1, [.null, .null, .null, .null, .null, .null, .int 0, .int 0, .long 0, .long 0])] : List va_E)) ++ ([.inr (5, [.int 0, .int 0, .int 0])] : List va_E))) (rl_join (l1 := [.inr (1, [.null, .null, .null, .null, .null, .null, .int 0, .int 0, .long 0, .long 0])]) (l2 := [.inr (5, [.int 0, .int 0, .int 0])])).symm ?_
  refine zx_callI (As := [.int (nI 3)]) (rest := [.ref (b + (6 + 13 * 3 + 1)), .ref (b + 1), .ref (b + (6 + 13 * 3 + 0)), .ref (b + (6 + 13 * 3 + 0)), .int (nI 3), .ref (b + 5)]) (Q' := fun r h1 n1 => r = none ∧ zx_X E mi_Ab_init (zx_Y E mi_Ab_init Q) 51 _ [.ref (b + (6 + 13 * 3 + 1)), .ref (b + 1), .ref (b + (6 + 13 * 3 + 0)), .ref (b + (6 + 13 * 3 + 0)), .int (nI 3), .ref (b + 5)] h1 n1 _ _) (q := 51) dd_Ab_init_48 rfl ci_Ab_init_24 rfl (Nat.le_of_ble_eq_true rfl) ⟨by decide, by decide⟩ (ok_St_init (m := 6 + 13 * 3 + 1) (by rw [List.length_append, preL_len]; rfl) ⟨rfl, ?_⟩) (fun r h1 n1 z => by obtain ⟨e, k⟩ := z; subst e; exact k)
  refine zx_hn (h' := rl b ((hdL b 3 ++ flL b 3) ++ [.inr (1, [.null, .null, .null, .null, .null, .null, .int 0, .int 0, .long 0, .long 0]), .inr (5, [.int (nI 3), .int 0, .int 0])])) (b + (6 + 13 * 3 + 2)) (rl_join.trans rfl) rfl ?_
  refine zx_callI (As := [.ref (b + 1), .ref (b + (6 + 13 * 3 + 1))]) (rest := [.ref (b + (6 + 13 * 3 + 0)), .int (nI 3), .ref (b + 5)]) (Q' := fun r h1 n1 => r = none ∧ zx_X E mi_Ab_init (zx_Y E mi_Ab_init Q) 54 _ [.ref (b + (6 + 13 * 3 + 0)), .int (nI 3), .ref (b + 5)] h1 n1 _ _) (q := 54) dd_Ab_init_51 rfl ci_Ab_init_27 rfl (Nat.le_of_ble_eq_true rfl) ⟨by decide, by decide⟩ (ok_Fu_init (f := 3) (m := 6 + 13 * 3) rfl (preL_len b 3) ⟨rfl, ?_⟩) (fun r h1 n1 z => by obtain ⟨e, k⟩ := z; subst e; exact k)
  refine zx_hn (h' := rl b (hdL b 3 ++ (flL b 3 ++ fnL b 3))) (b + (6 + 13 * (3 + 1))) (by rw [List.append_assoc]) rfl ?_
  refine zx_aast (h' := rl b (hdL b (3 + 1) ++ flL b (3 + 1))) (q := 55) dd_Ab_init_54 rfl (fun _ => rfl) (hdL_at (i := 5) rfl) (fn_at b 3) rfl rfl rfl (by decide) (by decide) hdL_up ?_
  refine zx_iincN_1 dd_Ab_init_55 rfl (by decide) rfl ?_
  refine zx_goto 25 dd_Ab_init_58 (by decide) ?_
  refine zx_iload_n (q := 26) dd_Ab_init_25 rfl rfl ?_
  refine zx_iconst (nI 5) (q := 27) dd_Ab_init_26 rfl (by decide) ?_
  refine zx_icmp_ge 61 (q := 30) dd_Ab_init_27 rfl (by decide) (fun hc => absurd hc (by decide)) (fun _ => ?_)
  refine zx_aload_n (q := 31) dd_Ab_init_30 rfl rfl ?_
  refine zx_get (q := 34) dd_Ab_init_31 rfl fl_Ab_18 (hdL_at (i := 0) rfl) rfl ?_
  refine zx_iload_n (q := 35) dd_Ab_init_34 rfl rfl ?_
  refine zx_hn (h' := rl b ((hdL b 4 ++ flL b 4) ++ [])) (b + (6 + 13 * 4 + 0)) (by rw [List.append_nil]) rfl ?_
  refine zx_new (fs := [.null, .null, .null, .null, .null, .null, .int 0, .int 0, .long 0, .long 0]) (q := 38) dd_Ab_init_35 rfl kc_Fu nw_Ab_16 (fun j hj => match j, hj with | 0, _ => rfl | 1, _ => rfl | 2, _ => rfl | 3, _ => rfl | 4, _ => rfl | 5, _ => rfl | 6, _ => rfl | 7, _ => rfl | 8, _ => rfl | 9, _ => rfl) (by decide) (by decide) ?_
  refine zx_hn (h' := rl b ((hdL b 4 ++ flL b 4) ++ [.inr (1, [.null, .null, .null, .null, .null, .null, .int 0, .int 0, .long 0, .long 0])])) (b + (6 + 13 * 4 + 1)) ((rl_new (preL_len b 4) 0 rfl).trans rfl) rfl ?_
  refine zx_dup (q := 39) dd_Ab_init_38 rfl rfl ?_
  refine zx_aload_n (q := 40) dd_Ab_init_39 rfl rfl ?_
  refine zx_get (q := 43) dd_Ab_init_40 rfl fl_Ab_12 (by rw [List.append_assoc]; exact hdL_at (i := 0) rfl) rfl ?_
  refine zx_new (fs := [.int 0, .int 0, .int 0]) (q := 46) dd_Ab_init_43 rfl kc_St nw_Ab_22 (fun j hj => match j, hj with | 0, _ => rfl | 1, _ => rfl | 2, _ => rfl) (by decide) (by decide) ?_
  refine zx_hn (h' := rl b ((hdL b 4 ++ flL b 4) ++ [.inr (1, [.null, .null, .null, .null, .null, .null, .int 0, .int 0, .long 0, .long 0]), .inr (5, [.int 0, .int 0, .int 0])])) (b + (6 + 13 * 4 + 2)) ((rl_new (preL_len b 4) 1 rfl).trans rfl) rfl ?_
  refine zx_dup (q := 47) dd_Ab_init_46 rfl rfl ?_
  refine zx_iload_n (q := 48) dd_Ab_init_47 rfl rfl ?_
  refine zx_heap (h' := rl b (((hdL b 4 ++ flL b 4) ++ ([.inr (1, [.null, .null, .null, .null, .null, .null, .int 0, .int 0, .long 0, .long 0])] : List va_E)) ++ ([.inr (5, [.int 0, .int 0, .int 0])] : List va_E))) (rl_join (l1 := [.inr (1, [.null, .null, .null, .null, .null, .null, .int 0, .int 0, .long 0, .long 0])]) (l2 := [.inr (5, [.int 0, .int 0, .int 0])])).symm ?_
  refine zx_callI (As := [.int (nI 4)]) (rest := [.ref (b + (6 + 13 * 4 + 1)), .ref (b + 1), .ref (b + (6 + 13 * 4 + 0)), .ref (b + (6 + 13 * 4 + 0)), .int (nI 4), .ref (b + 5)]) (Q' := fun r h1 n1 => r = none ∧ zx_X E mi_Ab_init (zx_Y E mi_Ab_init Q) 51 _ [.ref (b + (6 + 13 * 4 + 1)), .ref (b + 1), .ref (b + (6 + 13 * 4 + 0)), .ref (b + (6 + 13 * 4 + 0)), .int (nI 4), .ref (b + 5)] h1 n1 _ _) (q := 51) dd_Ab_init_48 rfl ci_Ab_init_24 rfl (Nat.le_of_ble_eq_true rfl) ⟨by decide, by decide⟩ (ok_St_init (m := 6 + 13 * 4 + 1) (by rw [List.length_append, preL_len]; rfl) ⟨rfl, ?_⟩) (fun r h1 n1 z => by obtain ⟨e, k⟩ := z; subst e; exact k)
  refine zx_hn (h' := rl b ((hdL b 4 ++ flL b 4) ++ [.inr (1, [.null, .null, .null, .null, .null, .null, .int 0, .int 0, .long 0, .long 0]), .inr (5, [.int (nI 4), .int 0, .int 0])])) (b + (6 + 13 * 4 + 2)) (rl_join.trans rfl) rfl ?_
  refine zx_callI (As := [.ref (b + 1), .ref (b + (6 + 13 * 4 + 1))]) (rest := [.ref (b + (6 + 13 * 4 + 0)), .int (nI 4), .ref (b + 5)]) (Q' := fun r h1 n1 => r = none ∧ zx_X E mi_Ab_init (zx_Y E mi_Ab_init Q) 54 _ [.ref (b + (6 + 13 * 4 + 0)), .int (nI 4), .ref (b + 5)] h1 n1 _ _) (q := 54) dd_Ab_init_51 rfl ci_Ab_init_27 rfl (Nat.le_of_ble_eq_true rfl) ⟨by decide, by decide⟩ (ok_Fu_init (f := 4) (m := 6 + 13 * 4) rfl (preL_len b 4) ⟨rfl, ?_⟩) (fun r h1 n1 z => by obtain ⟨e, k⟩ := z; subst e; exact k)
  refine zx_hn (h' := rl b (hdL b 4 ++ (flL b 4 ++ fnL b 4))) (b + (6 + 13 * (4 + 1))) (by rw [List.append_assoc]) rfl ?_
  refine zx_aast (h' := rl b (hdL b (4 + 1) ++ flL b (4 + 1))) (q := 55) dd_Ab_init_54 rfl (fun _ => rfl) (hdL_at (i := 5) rfl) (fn_at b 4) rfl rfl rfl (by decide) (by decide) hdL_up ?_
  refine zx_iincN_1 dd_Ab_init_55 rfl (by decide) rfl ?_
  refine zx_goto 25 dd_Ab_init_58 (by decide) ?_
  refine zx_iload_n (q := 26) dd_Ab_init_25 rfl rfl ?_
  refine zx_iconst (nI 5) (q := 27) dd_Ab_init_26 rfl (by decide) ?_
  refine zx_icmp_ge 61 (q := 30) dd_Ab_init_27 rfl (by decide) (fun _ => ?_) (fun hc => absurd (by decide) hc)
  exact zx_vret dd_Ab_init_61 rfl hq
