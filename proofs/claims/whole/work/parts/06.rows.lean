theorem zb_nar {x : Bool} : narrow .boolean (.int (zb x)) = .int (zb x) := by cases x <;> decide
theorem zb_fit {x : Bool} : fits .boolean (.int (zb x)) = true := by cases x <;> decide
theorem zb_0 {x : Bool} : zb x = 0 ↔ x = false := by cases x <;> decide
theorem zb_eq {x y : Bool} : zb x = zb y ↔ x = y := by cases x <;> cases y <;> decide
theorem lcmp_0 {x y : Int64} : lg_cmp x y = 0 ↔ x = y := by
  unfold lg_cmp
  by_cases h : y < x
  · have : ¬ x = y := fun e => by subst e; exact Int64.lt_irrefl h
    simp [h, this]
  · by_cases h2 : x = y
    · simp [h, h2]
    · simp [h, h2]
theorem lcmp_lt {x y : Int64} : lg_cmp x y < 0 ↔ x < y := by
  unfold lg_cmp
  by_cases h : y < x
  · have : ¬ x < y := fun e => Int64.lt_irrefl (Int64.lt_trans h e)
    simp [h, this]
  · by_cases h2 : x = y
    · subst h2
      simp [h]
    · have : x < y := by
        rw [Int64.lt_iff_toInt_lt] at h ⊢
        have h3 : x.toInt ≠ y.toInt := fun e => h2 (Int64.toInt_inj.mp e)
        omega
      simp [h, h2, this]
theorem lcmp_gt {x y : Int64} : 0 < lg_cmp x y ↔ y < x := by
  unfold lg_cmp
  by_cases h : y < x
  · simp [h]
  · by_cases h2 : x = y
    · simp [h, h2]
    · simp [h, h2]
theorem lcmp_le {x y : Int64} : lg_cmp x y ≤ 0 ↔ ¬ y < x := by
  rw [← lcmp_gt, Int32.lt_iff_toInt_lt, Int32.le_iff_toInt_le]
  omega
theorem lcmp_ge {x y : Int64} : 0 ≤ lg_cmp x y ↔ ¬ x < y := by
  rw [← lcmp_lt, Int32.lt_iff_toInt_lt, Int32.le_iff_toInt_le]
  omega
theorem lcmp_nge {x y : Int64} : ¬ 0 ≤ lg_cmp x y ↔ x < y := by rw [lcmp_ge, Decidable.not_not]
theorem lcmp_nle {x y : Int64} : ¬ lg_cmp x y ≤ 0 ↔ y < x := by rw [lcmp_le, Decidable.not_not]
section ZW
variable {E : zxE} {M : zxM} {Y : zxY} {pc q cells slots n : Nat} {L : List (Option Value)} {st : List Value} {h : zxH}
theorem zx_iincN_0 {rr : List (Option Value)} {j : Nat} (hd : decode M.2.2.1 pc = .ok (.iinc 0 1, 3)) (hq : pc + 3 = q) (hn : 0 < M.2.2.2.1) (k : zx_X E M Y q (some (.int (nI (j + 1))) :: rr) st h n cells slots) : zx_X E M Y pc (some (.int (nI j)) :: rr) st h n cells slots :=
  zx_iinc_0 (nI 1) hd hq (by decide) hn (by rw [nI_add]; exact k)
theorem zx_iincN_1 {a0 : Option Value} {rr : List (Option Value)} {j : Nat} (hd : decode M.2.2.1 pc = .ok (.iinc 1 1, 3)) (hq : pc + 3 = q) (hn : 1 < M.2.2.2.1) (hc : zx_n2 a0 = true) (k : zx_X E M Y q (a0 :: some (.int (nI (j + 1))) :: rr) st h n cells slots) : zx_X E M Y pc (a0 :: some (.int (nI j)) :: rr) st h n cells slots :=
  zx_iinc_1 (nI 1) hd hq (by decide) hn hc (by rw [nI_add]; exact k)
theorem zx_iincN_2 {a0 a1 : Option Value} {rr : List (Option Value)} {j : Nat} (hd : decode M.2.2.1 pc = .ok (.iinc 2 1, 3)) (hq : pc + 3 = q) (hn : 2 < M.2.2.2.1) (hc : zx_n2 a1 = true) (k : zx_X E M Y q (a0 :: a1 :: some (.int (nI (j + 1))) :: rr) st h n cells slots) : zx_X E M Y pc (a0 :: a1 :: some (.int (nI j)) :: rr) st h n cells slots :=
  zx_iinc_2 (nI 1) hd hq (by decide) hn hc (by rw [nI_add]; exact k)
theorem zx_iincN_3 {a0 a1 a2 : Option Value} {rr : List (Option Value)} {j : Nat} (hd : decode M.2.2.1 pc = .ok (.iinc 3 1, 3)) (hq : pc + 3 = q) (hn : 3 < M.2.2.2.1) (hc : zx_n2 a2 = true) (k : zx_X E M Y q (a0 :: a1 :: a2 :: some (.int (nI (j + 1))) :: rr) st h n cells slots) : zx_X E M Y pc (a0 :: a1 :: a2 :: some (.int (nI j)) :: rr) st h n cells slots :=
  zx_iinc_3 (nI 1) hd hq (by decide) hn hc (by rw [nI_add]; exact k)
theorem zx_iincN_4 {a0 a1 a2 a3 : Option Value} {rr : List (Option Value)} {j : Nat} (hd : decode M.2.2.1 pc = .ok (.iinc 4 1, 3)) (hq : pc + 3 = q) (hn : 4 < M.2.2.2.1) (hc : zx_n2 a3 = true) (k : zx_X E M Y q (a0 :: a1 :: a2 :: a3 :: some (.int (nI (j + 1))) :: rr) st h n cells slots) : zx_X E M Y pc (a0 :: a1 :: a2 :: a3 :: some (.int (nI j)) :: rr) st h n cells slots :=
  zx_iinc_4 (nI 1) hd hq (by decide) hn hc (by rw [nI_add]; exact k)
theorem zx_iincN_5 {a0 a1 a2 a3 a4 : Option Value} {rr : List (Option Value)} {j : Nat} (hd : decode M.2.2.1 pc = .ok (.iinc 5 1, 3)) (hq : pc + 3 = q) (hn : 5 < M.2.2.2.1) (hc : zx_n2 a4 = true) (k : zx_X E M Y q (a0 :: a1 :: a2 :: a3 :: a4 :: some (.int (nI (j + 1))) :: rr) st h n cells slots) : zx_X E M Y pc (a0 :: a1 :: a2 :: a3 :: a4 :: some (.int (nI j)) :: rr) st h n cells slots :=
  zx_iinc_5 (nI 1) hd hq (by decide) hn hc (by rw [nI_add]; exact k)
theorem zx_iincN_6 {a0 a1 a2 a3 a4 a5 : Option Value} {rr : List (Option Value)} {j : Nat} (hd : decode M.2.2.1 pc = .ok (.iinc 6 1, 3)) (hq : pc + 3 = q) (hn : 6 < M.2.2.2.1) (hc : zx_n2 a5 = true) (k : zx_X E M Y q (a0 :: a1 :: a2 :: a3 :: a4 :: a5 :: some (.int (nI (j + 1))) :: rr) st h n cells slots) : zx_X E M Y pc (a0 :: a1 :: a2 :: a3 :: a4 :: a5 :: some (.int (nI j)) :: rr) st h n cells slots :=
  zx_iinc_6 (nI 1) hd hq (by decide) hn hc (by rw [nI_add]; exact k)
theorem zx_iincN_7 {a0 a1 a2 a3 a4 a5 a6 : Option Value} {rr : List (Option Value)} {j : Nat} (hd : decode M.2.2.1 pc = .ok (.iinc 7 1, 3)) (hq : pc + 3 = q) (hn : 7 < M.2.2.2.1) (hc : zx_n2 a6 = true) (k : zx_X E M Y q (a0 :: a1 :: a2 :: a3 :: a4 :: a5 :: a6 :: some (.int (nI (j + 1))) :: rr) st h n cells slots) : zx_X E M Y pc (a0 :: a1 :: a2 :: a3 :: a4 :: a5 :: a6 :: some (.int (nI j)) :: rr) st h n cells slots :=
  zx_iinc_7 (nI 1) hd hq (by decide) hn hc (by rw [nI_add]; exact k)
theorem zx_iincN_8 {a0 a1 a2 a3 a4 a5 a6 a7 : Option Value} {rr : List (Option Value)} {j : Nat} (hd : decode M.2.2.1 pc = .ok (.iinc 8 1, 3)) (hq : pc + 3 = q) (hn : 8 < M.2.2.2.1) (hc : zx_n2 a7 = true) (k : zx_X E M Y q (a0 :: a1 :: a2 :: a3 :: a4 :: a5 :: a6 :: a7 :: some (.int (nI (j + 1))) :: rr) st h n cells slots) : zx_X E M Y pc (a0 :: a1 :: a2 :: a3 :: a4 :: a5 :: a6 :: a7 :: some (.int (nI j)) :: rr) st h n cells slots :=
  zx_iinc_8 (nI 1) hd hq (by decide) hn hc (by rw [nI_add]; exact k)
theorem zx_iincN_9 {a0 a1 a2 a3 a4 a5 a6 a7 a8 : Option Value} {rr : List (Option Value)} {j : Nat} (hd : decode M.2.2.1 pc = .ok (.iinc 9 1, 3)) (hq : pc + 3 = q) (hn : 9 < M.2.2.2.1) (hc : zx_n2 a8 = true) (k : zx_X E M Y q (a0 :: a1 :: a2 :: a3 :: a4 :: a5 :: a6 :: a7 :: a8 :: some (.int (nI (j + 1))) :: rr) st h n cells slots) : zx_X E M Y pc (a0 :: a1 :: a2 :: a3 :: a4 :: a5 :: a6 :: a7 :: a8 :: some (.int (nI j)) :: rr) st h n cells slots :=
  zx_iinc_9 (nI 1) hd hq (by decide) hn hc (by rw [nI_add]; exact k)
theorem zx_iincN_10 {a0 a1 a2 a3 a4 a5 a6 a7 a8 a9 : Option Value} {rr : List (Option Value)} {j : Nat} (hd : decode M.2.2.1 pc = .ok (.iinc 10 1, 3)) (hq : pc + 3 = q) (hn : 10 < M.2.2.2.1) (hc : zx_n2 a9 = true) (k : zx_X E M Y q (a0 :: a1 :: a2 :: a3 :: a4 :: a5 :: a6 :: a7 :: a8 :: a9 :: some (.int (nI (j + 1))) :: rr) st h n cells slots) : zx_X E M Y pc (a0 :: a1 :: a2 :: a3 :: a4 :: a5 :: a6 :: a7 :: a8 :: a9 :: some (.int (nI j)) :: rr) st h n cells slots :=
  zx_iinc_10 (nI 1) hd hq (by decide) hn hc (by rw [nI_add]; exact k)
theorem zx_iincN_11 {a0 a1 a2 a3 a4 a5 a6 a7 a8 a9 a10 : Option Value} {rr : List (Option Value)} {j : Nat} (hd : decode M.2.2.1 pc = .ok (.iinc 11 1, 3)) (hq : pc + 3 = q) (hn : 11 < M.2.2.2.1) (hc : zx_n2 a10 = true) (k : zx_X E M Y q (a0 :: a1 :: a2 :: a3 :: a4 :: a5 :: a6 :: a7 :: a8 :: a9 :: a10 :: some (.int (nI (j + 1))) :: rr) st h n cells slots) : zx_X E M Y pc (a0 :: a1 :: a2 :: a3 :: a4 :: a5 :: a6 :: a7 :: a8 :: a9 :: a10 :: some (.int (nI j)) :: rr) st h n cells slots :=
  zx_iinc_11 (nI 1) hd hq (by decide) hn hc (by rw [nI_add]; exact k)
theorem zx_iincN_12 {a0 a1 a2 a3 a4 a5 a6 a7 a8 a9 a10 a11 : Option Value} {rr : List (Option Value)} {j : Nat} (hd : decode M.2.2.1 pc = .ok (.iinc 12 1, 3)) (hq : pc + 3 = q) (hn : 12 < M.2.2.2.1) (hc : zx_n2 a11 = true) (k : zx_X E M Y q (a0 :: a1 :: a2 :: a3 :: a4 :: a5 :: a6 :: a7 :: a8 :: a9 :: a10 :: a11 :: some (.int (nI (j + 1))) :: rr) st h n cells slots) : zx_X E M Y pc (a0 :: a1 :: a2 :: a3 :: a4 :: a5 :: a6 :: a7 :: a8 :: a9 :: a10 :: a11 :: some (.int (nI j)) :: rr) st h n cells slots :=
  zx_iinc_12 (nI 1) hd hq (by decide) hn hc (by rw [nI_add]; exact k)
theorem zx_iincN_13 {a0 a1 a2 a3 a4 a5 a6 a7 a8 a9 a10 a11 a12 : Option Value} {rr : List (Option Value)} {j : Nat} (hd : decode M.2.2.1 pc = .ok (.iinc 13 1, 3)) (hq : pc + 3 = q) (hn : 13 < M.2.2.2.1) (hc : zx_n2 a12 = true) (k : zx_X E M Y q (a0 :: a1 :: a2 :: a3 :: a4 :: a5 :: a6 :: a7 :: a8 :: a9 :: a10 :: a11 :: a12 :: some (.int (nI (j + 1))) :: rr) st h n cells slots) : zx_X E M Y pc (a0 :: a1 :: a2 :: a3 :: a4 :: a5 :: a6 :: a7 :: a8 :: a9 :: a10 :: a11 :: a12 :: some (.int (nI j)) :: rr) st h n cells slots :=
  zx_iinc_13 (nI 1) hd hq (by decide) hn hc (by rw [nI_add]; exact k)
end ZW
/-! What each method of the system does, in numbers. -/
def pc_NEVER : Int64 := lN 9223372036854775807
def pc_put (B : zB) (num ad head tgt : Int32) (d : Int64) : zB := match B with
  | (ids, con, snd, cnt, ovf, now) =>
    if cnt < 48 then (upd ids cnt (head + (tgt <<< (nI 8 &&& 31)) + ad), vp_updL con cnt d, upd snd cnt num, cnt + 1, ovf, now)
    else (ids, con, snd, cnt, ovf + nI 1, now)
theorem pc_put_cnt {B : zB} {num ad head tgt : Int32} {d : Int64} (h : B.2.2.2.1 ≤ 48) : (pc_put B num ad head tgt d).2.2.2.1 ≤ 48 := by
  obtain ⟨ids, con, snd, cnt, ovf, now⟩ := B
  have h : cnt ≤ 48 := h
  by_cases g : cnt < 48
  · simp only [pc_put, if_pos g]
    exact g
  · simp only [pc_put, if_neg g]
    exact h
/-- the place of the least identifier among the first k + 1, the first of such -/
def pc_least (ids : Nat → Int32) : Nat → Nat
  | 0 => 0
  | k + 1 => if ids (k + 1) < ids (pc_least ids k) then k + 1 else pc_least ids k
theorem pc_least_le (ids : Nat → Int32) : ∀ k, pc_least ids k ≤ k
  | 0 => Nat.le_refl _
  | k + 1 => by
    have := pc_least_le ids k
    unfold pc_least
    split <;> omega
def pc_next (ids : Nat → Int32) (cnt : Nat) : Int32 := if cnt = 0 then -1 else nI (pc_least ids (cnt - 1))
/-- the places from p on, up to e, have moved one down -/
def pc_shift {α : Type} (a : Nat → α) (p e : Nat) : Nat → α := fun i => if p ≤ i ∧ i < e then a (i + 1) else a i
def pc_take (B : zB) (p : Nat) : zB := match B with
  | (ids, con, snd, cnt, ovf, now) => (pc_shift ids p (cnt - 1), pc_shift con p (cnt - 1), pc_shift snd p (cnt - 1), cnt - 1, ovf, now)
theorem pc_shift_0 {α : Type} (a : Nat → α) (p : Nat) : pc_shift a p p = a := by
  funext i
  unfold pc_shift
  rw [if_neg (by omega)]
theorem pc_shift_s {a : Nat → Int32} {p e : Nat} (h : p ≤ e) : upd (pc_shift a p e) e (pc_shift a p e (e + 1)) = pc_shift a p (e + 1) := by
  funext i
  by_cases hi : i = e
  · subst hi
    simp only [pc_shift, upd]
    rw [if_pos trivial, if_neg (by omega), if_pos (by omega)]
  · simp only [pc_shift, upd]
    rw [if_neg hi]
    by_cases g : p ≤ i ∧ i < e
    · rw [if_pos g, if_pos (by omega)]
    · rw [if_neg g, if_neg (by omega)]
theorem pc_shift_l {a : Nat → Int64} {p e : Nat} (h : p ≤ e) : vp_updL (pc_shift a p e) e (pc_shift a p e (e + 1)) = pc_shift a p (e + 1) := by
  funext i
  by_cases hi : i = e
  · subst hi
    simp only [pc_shift, vp_updL]
    rw [if_pos trivial, if_neg (by omega), if_pos (by omega)]
  · simp only [pc_shift, vp_updL]
    rw [if_neg hi]
    by_cases g : p ≤ i ∧ i < e
    · rw [if_pos g, if_pos (by omega)]
    · rw [if_neg g, if_neg (by omega)]
/-- what is kept of the first k frames: how many, and the arrays with them moved down -/
def pc_keep (s : Int32) (ids : Nat → Int32) (con : Nat → Int64) (snd : Nat → Int32) : Nat → Nat × (Nat → Int32) × (Nat → Int64) × (Nat → Int32)
  | 0 => (0, ids, con, snd)
  | k + 1 => match pc_keep s ids con snd k with
    | (j, i2, c2, s2) => if s2 k = s then (j, i2, c2, s2) else (j + 1, upd i2 j (i2 k), vp_updL c2 j (c2 k), upd s2 j (s2 k))
theorem pc_keep_le (s : Int32) (ids : Nat → Int32) (con : Nat → Int64) (snd : Nat → Int32) : ∀ k, (pc_keep s ids con snd k).1 ≤ k
  | 0 => Nat.le_refl _
  | k + 1 => by
    have := pc_keep_le s ids con snd k
    unfold pc_keep
    split
    rename_i j i2 c2 s2 he
    rw [he] at this
    split
    · exact Nat.le_succ_of_le this
    · exact Nat.succ_le_succ this
def pc_takeOf (B : zB) (s : Int32) : zB := match B with
  | (ids, con, snd, cnt, ovf, now) => match pc_keep s ids con snd cnt with
    | (j, i2, c2, s2) => (i2, c2, s2, j, ovf, now)
def pc_pk (size : Int32) : Int32 := (size + nI 7 - nI 1) / nI 7
def pc_fb (d : Int64) (k : Int32) : Int32 := (d.toUInt64 >>> ((nI 8 * (k - nI 1)).toInt64.toUInt64 &&& Int64.toUInt64 63)).toInt64.toInt32 &&& nI 255
def pc_ctl (kind second third fourth group : Int32) : Int64 :=
  (group.toInt64 <<< ((nI 40).toInt64 &&& 63)) + lN 1095216660480 + (fourth.toInt64 <<< ((nI 24).toInt64 &&& 63)) + (third <<< (nI 16 &&& 31)).toInt64 + (second <<< (nI 8 &&& 31)).toInt64 + kind.toInt64
def pc_ext (kind size group : Int32) : Int64 := pc_ctl kind (size &&& nI 255) (size >>> (nI 8 &&& 31)) (pc_pk size) group
def pc_abt (reason group : Int32) : Int64 := pc_ctl (nI 255) reason (nI 255) (nI 255) group
