/-! What the reference's methods do, in numbers. Arrays by number: 0 state, 1 held, 2 name, 3 occupied, 4 claimDue, 5 notes, 6 frameId, 7 frameData, 8 frameSender, 9 out, 10 result, 11 outOther, 12 outGroup, 13 outSize, 14 outSeed, 15 outNext, 16 outDue, 17 ins, 18 inAll, 19 inFrom, 20 inGroup, 21 inSize, 22 inExpected, 23 inLast, 24 inAsked, 25 inHeld, 26 inDue, 27 inBytes, 28 arrived, 29 last, 30 lastBytes. -/
theorem up2_r {α : Type} (I : Nat → Nat → α) (k i : Nat) (v : α) (a j : Nat) : up2 I k i v a j = if a = k then (if j = i then v else I a j) else I a j := rfl
theorem up2_self {α : Type} (I : Nat → Nat → α) (k i : Nat) (v : α) : up2 I k i v k i = v := by simp [up2_r]
section ZR
variable {E : zxE} {M : zxM} {Y : zxY} {pc cells slots n : Nat} {L : List (Option Value)} {st : List Value} {h : zxH}
theorem zx_topr {I' I : Nat → Nat → Int32} {k j : Nat} (hI : ∀ j, I' k j = I k j) (kk : zx_X E M Y pc L (.int (I k j) :: st) h n cells slots) : zx_X E M Y pc L (.int (I' k j) :: st) h n cells slots := by rw [hI]; exact kk
theorem zx_toprl {I' I : Nat → Nat → Int64} {k j : Nat} (hI : ∀ j, I' k j = I k j) (kk : zx_X E M Y pc L (.long (I k j) :: st) h n cells slots) : zx_X E M Y pc L (.long (I' k j) :: st) h n cells slots := by rw [hI]; exact kk
end ZR
theorem pm_in {x : Int32} (h1 : ¬ x < 0) (h2 : ¬ nI 4 < x) : ∃ f : Nat, f < 5 ∧ x = nI f := by
  obtain ⟨j, hj, rfl⟩ := nI_of h1
  refine ⟨j, ?_, rfl⟩
  by_cases g : j < 5
  · exact g
  · exact absurd ((nI_ltI (by decide) hj).mpr (by omega)) h2
def pm_on (I : Nat → Nat → Int32) (x : Int32) : Bool := !decide (x < 0) && !decide (nI 4 < x) && !decide (I 0 x.toNatClampNeg = 0)
theorem pm_on_n {I : Nat → Nat → Int32} {x : Int32} (h : pm_on I x = true) : ∃ f : Nat, f < 5 ∧ x = nI f := by
  simp only [pm_on, Bool.and_eq_true, Bool.not_eq_true', decide_eq_false_iff_not] at h
  exact pm_in h.1.1 h.1.2
def pm_pk (z : Int32) : Int32 := (z + nI 6) / nI 7
def pm_src (I : Nat → Nat → Int32) (f : Nat) : Int32 := if I 0 f = nI 3 then nI 254 else I 1 f
def pm_id (pr fm tg src : Int32) : Int32 := (((pr <<< (nI 26 &&& 31)) ||| (fm <<< (nI 16 &&& 31))) ||| (tg <<< (nI 8 &&& 31))) ||| src
def pm_put (D : zMd) (f : Nat) (pr fm tg : Int32) (d : Int64) : zMd := match D with
  | (t, fr, lo, I, J) => if fr = 48 then (t, fr, lo + nI 1, I, J) else (t, fr + 1, lo, up2 (up2 I 6 fr (pm_id pr fm tg (pm_src I f))) 8 fr (nI f), up2 J 7 fr d)
def pm_putCl (D : zMd) (f : Nat) : zMd := pm_put D f (nI 6) (nI 238) (nI 255) (D.2.2.2.2 2 f)
def pm_ctl (ki x2 x3 x4 gr : Int32) : Int64 :=
  ((((ki.toInt64 ||| (x2.toInt64 <<< ((nI 8).toInt64 &&& 63))) ||| (x3.toInt64 <<< ((nI 16).toInt64 &&& 63))) ||| (x4.toInt64 <<< ((nI 24).toInt64 &&& 63))) ||| lN 1095216660480) ||| (gr.toInt64 <<< ((nI 40).toInt64 &&& 63))
def pm_putC (D : zMd) (f : Nat) (tg ki x2 x3 x4 gr : Int32) : zMd := pm_put D f (nI 7) (nI 236) tg (pm_ctl ki x2 x3 x4 gr)
def pm_putA (D : zMd) (f : Nat) (tg re gr : Int32) : zMd := pm_putC D f tg (nI 255) re (nI 255) (nI 255) gr
def pm_acc (si : Int32) (se : Int64) (k : Int32) : Nat → Int64
  | 0 => k.toInt64
  | m + 1 => pm_acc si se k m ||| (pc_val si se (nI 7 * k - nI 7 + nI m) <<< ((nI (8 * m + 8)).toInt64 &&& 63))
def pm_putP (D : zMd) (f : Nat) (k : Int32) : zMd := match D with
  | (t, fr, lo, I, J) => pm_put (t, fr, lo, I, J) f (nI 7) (nI 235) (I 11 f) (pm_acc (I 13 f) (J 14 f) k 7)
def pm_shI (I : Nat → Nat → Int32) (p e : Nat) : Nat → Nat → Int32 := fun a => if a = 6 then pc_shift (I 6) p e else if a = 8 then pc_shift (I 8) p e else I a
def pm_shJ (J : Nat → Nat → Int64) (p e : Nat) : Nat → Nat → Int64 := fun a => if a = 7 then pc_shift (J 7) p e else J a
def pm_take (D : zMd) (p : Nat) : zMd := match D with
  | (t, fr, lo, I, J) => (t, fr - 1, lo, pm_shI I p (fr - 1), pm_shJ J p (fr - 1))
theorem pm_shI_0 (I : Nat → Nat → Int32) (p : Nat) : pm_shI I p p = I := by
  funext a
  unfold pm_shI
  rw [pc_shift_0, pc_shift_0]
  by_cases h : a = 6
  · subst h; rfl
  · by_cases g : a = 8
    · subst g; rfl
    · rw [if_neg h, if_neg g]
theorem pm_shJ_0 (J : Nat → Nat → Int64) (p : Nat) : pm_shJ J p p = J := by
  funext a
  unfold pm_shJ
  rw [pc_shift_0]
  by_cases h : a = 7
  · subst h; rfl
  · rw [if_neg h]
theorem up2_fun (I : Nat → Nat → Int32) (k i : Nat) (v : Int32) : up2 I k i v = fun a => if a = k then upd (I k) i v else I a := by
  funext a j
  unfold up2 upd
  by_cases h : a = k
  · subst h; simp
  · simp [h]
theorem up2_funL (I : Nat → Nat → Int64) (k i : Nat) (v : Int64) : up2 I k i v = fun a => if a = k then vp_updL (I k) i v else I a := by
  funext a j
  unfold up2 vp_updL
  by_cases h : a = k
  · subst h; simp
  · simp [h]
theorem pm_shI_s {I : Nat → Nat → Int32} {p e : Nat} (h : p ≤ e) : up2 (up2 (pm_shI I p e) 6 e (pm_shI I p e 6 (e + 1))) 8 e (pm_shI I p e 8 (e + 1)) = pm_shI I p (e + 1) := by
  have h6 : pm_shI I p e 6 = pc_shift (I 6) p e := rfl
  have h8 : pm_shI I p e 8 = pc_shift (I 8) p e := rfl
  rw [up2_fun, up2_fun, h6, h8]
  funext a
  by_cases g : a = 8
  · subst g
    simp only [if_true]
    show upd (pc_shift (I 8) p e) e (pc_shift (I 8) p e (e + 1)) = pc_shift (I 8) p (e + 1)
    rw [pc_shift_s h]
  · by_cases g6 : a = 6
    · subst g6
      show upd (pc_shift (I 6) p e) e (pc_shift (I 6) p e (e + 1)) = pc_shift (I 6) p (e + 1)
      rw [pc_shift_s h]
    · simp [g, g6, pm_shI]
theorem pm_shJ_s {J : Nat → Nat → Int64} {p e : Nat} (h : p ≤ e) : up2 (pm_shJ J p e) 7 e (pm_shJ J p e 7 (e + 1)) = pm_shJ J p (e + 1) := by
  have h7 : pm_shJ J p e 7 = pc_shift (J 7) p e := rfl
  rw [up2_funL, h7]
  funext a
  by_cases g : a = 7
  · subst g
    show vp_updL (pc_shift (J 7) p e) e (pc_shift (J 7) p e (e + 1)) = pc_shift (J 7) p (e + 1)
    rw [pc_shift_l h]
  · simp [g, pm_shJ]
def pm_fin (D : zMd) (f : Nat) (how : Int32) : zMd := match D with
  | (t, fr, lo, I, J) => (t, fr, lo, up2 (up2 I 9 f (nI 0)) 10 f how, J)
def pm_below (x y : Int64) : Bool := if (x < lN 0) = (y < lN 0) then decide (x < y) else decide (y < lN 0)
theorem pm_in3 {x : Int32} (h1 : ¬ x < 0) (h2 : ¬ nI 3 < x) : ∃ f : Nat, f < 4 ∧ x = nI f := by
  obtain ⟨j, hj, rfl⟩ := nI_of h1
  refine ⟨j, ?_, rfl⟩
  by_cases g : j < 4
  · exact g
  · exact absurd ((nI_ltI (by decide) hj).mpr (by omega)) h2
theorem pm_cl4 {f : Nat} (h : f < 4) : (nI f).toNatClampNeg = f := nI_clamp (by omega)
def pm_state (I : Nat → Nat → Int32) (x : Int32) : Int32 := if x < 0 then -1 else if nI 4 < x then -1 else I 0 x.toNatClampNeg
def pm_address (I : Nat → Nat → Int32) (x : Int32) : Int32 := if pm_on I x = true then pm_src I x.toNatClampNeg else -1
def pm_noted (I : Nat → Nat → Int32) (x y : Int32) : Int32 := if pm_on I x = true then (if y < 0 then -1 else if nI 4 < y then -1 else I 5 (5 * x.toNatClampNeg + y.toNatClampNeg)) else -1
def pm_request (D : zMd) (x : Int32) : Bool × zMd := if pm_on D.2.2.2.1 x = true then (true, pm_put D x.toNatClampNeg (nI 6) (nI 234) (nI 255) (lN 60928)) else (false, D)
def pm_busy (D : zMd) (x : Int32) (y : Int32) : Bool × zMd := match D with
  | (t, fr, lo, I, J) => if x < 0 then (false, (t, fr, lo, I, J)) else if nI 4 < x then (false, (t, fr, lo, I, J)) else if I 3 x.toNatClampNeg = y then (false, (t, fr, lo, I, J)) else (true, (t, fr, lo, up2 I 3 x.toNatClampNeg (vp_nar .boolean y), J))
def pm_outgoing (I : Nat → Nat → Int32) (x : Int32) : Int32 := if pm_on I x = true then (if I 9 x.toNatClampNeg ≤ 0 then I 10 x.toNatClampNeg else I 9 x.toNatClampNeg) else -1
def pm_incoming (I : Nat → Nat → Int32) (x : Int32) : Int32 := if pm_on I x = true then I 17 x.toNatClampNeg else -1
def pm_delivered (I : Nat → Nat → Int32) (x : Int32) : Int32 := if pm_on I x = true then I 28 x.toNatClampNeg else -1
def pm_message (I : Nat → Nat → Int32) (x y : Int32) : Int32 :=
  if pm_on I x = true then (if I 28 x.toNatClampNeg ≤ 0 then -1 else if y < 0 then -1 else if nI 3 < y then -1 else I 29 (4 * x.toNatClampNeg + y.toNatClampNeg)) else -1
def pm_byteOf (I : Nat → Nat → Int32) (x y : Int32) : Int32 :=
  if pm_on I x = true then (if I 28 x.toNatClampNeg ≤ 0 then -1 else if y < 0 then -1 else if I 29 (4 * x.toNatClampNeg + 2) ≤ y then -1 else I 30 (49 * x.toNatClampNeg + y.toNatClampNeg)) else -1
def pm_identifier (D : zMd) : Int32 := if D.2.1 = 0 then -1 else D.2.2.2.1 6 (pc_least (D.2.2.2.1 6) (D.2.1 - 1))
def pm_data (D : zMd) : Int64 := if D.2.1 = 0 then lN 0 else D.2.2.2.2 7 (pc_least (D.2.2.2.1 6) (D.2.1 - 1))
def pm_lose (D : zMd) : Bool × zMd := if D.2.1 = 0 then (false, D) else (true, pm_take D (pc_least (D.2.2.2.1 6) (D.2.1 - 1)))
def pm_ntd (I : Nat → Nat → Int32) (f : Nat) (a : Int32) : Nat → Bool
  | 0 => false
  | k + 1 => pm_ntd I f a k || decide (I 5 (5 * f + k) = a)
def pm_spare (I : Nat → Nat → Int32) (f : Nat) : Int32 :=
  if pm_ntd I f (nI 128) 5 = false then nI 128 else if pm_ntd I f (nI 129) 5 = false then nI 129 else if pm_ntd I f (nI 130) 5 = false then nI 130 else if pm_ntd I f (nI 131) 5 = false then nI 131 else -1
def pm_tk (I : Nat → Nat → Int32) (J : Nat → Nat → Int64) (name : Int64) : Nat → Bool
  | 0 => false
  | k + 1 => pm_tk I J name k || (!decide (I 0 k = 0) && decide (J 2 k = name))
theorem pm_tk_up {I : Nat → Nat → Int32} {J : Nat → Nat → Int64} {name : Int64} {i : Nat} (h : pm_tk I J name i = true) : ∀ k, pm_tk I J name (i + k) = true
  | 0 => h
  | k + 1 => by
    show (pm_tk I J name (i + k) || _) = true
    rw [pm_tk_up h k]
    rfl
/-- the first k notes of f are -1 -/
def pm_fill (I : Nat → Nat → Int32) (f k : Nat) : Nat → Nat → Int32 := fun a j => if a = 5 ∧ 5 * f ≤ j ∧ j < 5 * f + k then -1 else I a j
theorem pm_fill_0 (I : Nat → Nat → Int32) (f : Nat) : pm_fill I f 0 = I := by
  funext a j
  unfold pm_fill
  rw [if_neg (by omega)]
theorem pm_fill_s (I : Nat → Nat → Int32) (f k : Nat) : up2 (pm_fill I f k) 5 (5 * f + k) (-1) = pm_fill I f (k + 1) := by
  funext a j
  simp only [up2_r, pm_fill]
  by_cases h : a = 5
  · subst h
    by_cases g : j = 5 * f + k
    · subst g
      rw [if_pos rfl, if_pos rfl, if_pos (by omega)]
    · rw [if_pos rfl, if_neg g]
      by_cases g2 : 5 = 5 ∧ 5 * f ≤ j ∧ j < 5 * f + k
      · rw [if_pos g2, if_pos (by omega)]
      · rw [if_neg g2, if_neg (by omega)]
  · rw [if_neg h, if_neg (by simp [h]), if_neg (by simp [h])]
def pm_start (D : zMd) (x : Int32) (name : Int64) (a : Int32) : Bool × zMd := match D with
  | (t, fr, lo, I, J) =>
    if x < 0 then (false, D) else if nI 4 < x then (false, D) else if I 0 x.toNatClampNeg = 0 then
      (if a < 0 then (false, D) else if a ≤ nI 253 then
        (if pm_tk I J name 5 = true then (false, D)
        else (true, pm_putCl (t, fr, lo, up2 (up2 (pm_fill (up2 (up2 (up2 I 0 x.toNatClampNeg (nI 1)) 1 x.toNatClampNeg a) 4 x.toNatClampNeg (t + nI 250)) x.toNatClampNeg 5) 10 x.toNatClampNeg (nI 0)) 28 x.toNatClampNeg (nI 0), up2 J 2 x.toNatClampNeg name) x.toNatClampNeg))
      else (false, D))
    else (false, D)
/-- of the first k frames those of f are taken away, the last ones first -/
def pm_rm (f : Nat) : Nat → zMd → zMd
  | 0, D => D
  | k + 1, D => if D.2.2.2.1 8 k = nI f then pm_rm f k (pm_take D k) else pm_rm f k D
def pm_stop (D : zMd) (x : Int32) : Bool × zMd := match D with
  | (t, fr, lo, I, J) => if pm_on I x = true then (true, pm_rm x.toNatClampNeg fr (t, fr, lo, up2 (up2 (up2 I 0 x.toNatClampNeg (nI 0)) 9 x.toNatClampNeg (nI 0)) 17 x.toNatClampNeg (nI 0), J)) else (false, (t, fr, lo, I, J))
def pm_send (D : zMd) (x tg gr si : Int32) (se : Int64) : Bool × zMd := match D with
  | (t, fr, lo, I, J) =>
    if pm_on I x = true ∧ I 0 x.toNatClampNeg = nI 2 ∧ ¬ 0 < I 9 x.toNatClampNeg ∧ ¬ tg < 0 ∧ ¬ tg = nI 254 ∧ ¬ nI 255 < tg ∧ ¬ tg = I 1 x.toNatClampNeg ∧ ¬ gr < 0 ∧ ¬ nI 262143 < gr ∧ ¬ si < nI 9 ∧ si ≤ nI 49 then
      if tg = nI 255 then
        (true, pm_putC (t, fr, lo, up2 (up2 (up2 (up2 (up2 (up2 I 9 x.toNatClampNeg (nI 1)) 11 x.toNatClampNeg tg) 12 x.toNatClampNeg gr) 13 x.toNatClampNeg si) 15 x.toNatClampNeg (nI 1)) 16 x.toNatClampNeg (t + nI 50), up2 J 14 x.toNatClampNeg se) x.toNatClampNeg tg (nI 32) (si &&& nI 255) (si >>> (nI 8 &&& 31)) (pm_pk si) gr)
      else
        (true, pm_putC (t, fr, lo, up2 (up2 (up2 (up2 (up2 (up2 I 9 x.toNatClampNeg (nI 2)) 11 x.toNatClampNeg tg) 12 x.toNatClampNeg gr) 13 x.toNatClampNeg si) 15 x.toNatClampNeg (nI 1)) 16 x.toNatClampNeg (t + nI 1250), up2 J 14 x.toNatClampNeg se) x.toNatClampNeg tg (nI 16) (si &&& nI 255) (si >>> (nI 8 &&& 31)) (pm_pk si) gr)
    else (false, (t, fr, lo, I, J))
def pm_findK (I : Nat → Nat → Int32) (src al : Int32) : Nat → Nat → Int32
  | 0, _ => -1
  | k + 1, s => if I 19 s = src ∧ I 18 s = al then nI s else pm_findK I src al k (s + 1)
theorem pm_findK_n {I : Nat → Nat → Int32} {src al : Int32} : ∀ (k s : Nat), ¬ pm_findK I src al k s < 0 → ∃ u : Nat, s ≤ u ∧ u < s + k ∧ pm_findK I src al k s = nI u
  | 0, s, h => absurd (show (-1 : Int32) < 0 by decide) h
  | k + 1, s, h => by
    unfold pm_findK at h ⊢
    by_cases g : I 19 s = src ∧ I 18 s = al
    · rw [if_pos g]
      exact ⟨s, Nat.le_refl _, by omega, rfl⟩
    · rw [if_neg g] at h ⊢
      obtain ⟨u, h1, h2, h3⟩ := pm_findK_n k (s + 1) h
      exact ⟨u, by omega, by omega, h3⟩
def pm_mv (R I : Nat → Nat → Int32) (s : Nat) : Nat → Nat → Int32 :=
  up2 (up2 (up2 (up2 (up2 (up2 (up2 (up2 (up2 I 18 s (vp_nar .boolean (R 18 (s + 1)))) 19 s (R 19 (s + 1))) 20 s (R 20 (s + 1))) 21 s (R 21 (s + 1))) 22 s (R 22 (s + 1))) 23 s (R 23 (s + 1))) 24 s (R 24 (s + 1))) 25 s (vp_nar .boolean (R 25 (s + 1)))) 26 s (R 26 (s + 1))
/-- k bytes of the next session come to the session s -/
def pm_cpB (I : Nat → Nat → Int32) (s k : Nat) : Nat → Nat → Int32 := fun a j => if a = 27 ∧ 49 * s ≤ j ∧ j < 49 * s + k then I 27 (j + 49) else I a j
theorem pm_cpB_0 (I : Nat → Nat → Int32) (s : Nat) : pm_cpB I s 0 = I := by
  funext a j
  unfold pm_cpB
  rw [if_neg (by omega)]
theorem pm_cpB_s {I : Nat → Nat → Int32} {s k : Nat} (hk : k < 49) : up2 (pm_cpB I s k) 27 (49 * s + k) (pm_cpB I s k 27 (49 * (s + 1) + k)) = pm_cpB I s (k + 1) := by
  have h1 : pm_cpB I s k 27 (49 * (s + 1) + k) = I 27 (49 * s + k + 49) := by
    unfold pm_cpB
    rw [if_neg (by omega), show 49 * (s + 1) + k = 49 * s + k + 49 by omega]
  rw [h1]
  funext a j
  simp only [up2_r, pm_cpB]
  by_cases h : a = 27
  · subst h
    by_cases g : j = 49 * s + k
    · subst g
      rw [if_pos rfl, if_pos rfl, if_pos (by omega)]
    · rw [if_pos rfl, if_neg g]
      by_cases g2 : 27 = 27 ∧ 49 * s ≤ j ∧ j < 49 * s + k
      · rw [if_pos g2, if_pos (by omega)]
      · rw [if_neg g2, if_neg (by omega)]
  · rw [if_neg h, if_neg (by simp [h]), if_neg (by simp [h])]
def pm_close (D : zMd) (f s : Nat) : zMd := match D with
  | (t, fr, lo, I, J) => if 2 * f < s then (t, fr, lo, up2 I 17 f (I 17 f - nI 1), J) else if I 17 f - nI 1 = 0 then (t, fr, lo, up2 I 17 f (I 17 f - nI 1), J) else (t, fr, lo, pm_cpB (pm_mv I (up2 I 17 f (I 17 f - nI 1)) s) s 49, J)
theorem pm_close_ins (D : zMd) (f s : Nat) : (pm_close D f s).2.2.2.1 17 f = D.2.2.2.1 17 f - nI 1 := by
  obtain ⟨t, fr, lo, I, J⟩ := D
  unfold pm_close
  simp only
  split
  · simp [up2_r]
  · split
    · simp [up2_r]
    · simp [pm_cpB, pm_mv, up2_r]
theorem pm_close_fr (D : zMd) (f s : Nat) : (pm_close D f s).2.1 = D.2.1 := by
  obtain ⟨t, fr, lo, I, J⟩ := D
  unfold pm_close
  simp only
  split
  · rfl
  · split <;> rfl
def pm_grM (I : Nat → Nat → Int32) (f s : Nat) : Int32 := if I 3 f = 0 then (if nI 3 ≤ pm_pk (I 21 s) - I 22 s + nI 1 then nI 3 else pm_pk (I 21 s) - I 22 s + nI 1) else nI 0
def pm_grant (D : zMd) (f s : Nat) : zMd := match D with
  | (t, fr, lo, I, J) => pm_putC (t, fr, lo, up2 (up2 (up2 I 25 s (vp_nar .boolean (if pm_grM I f s = 0 then nI 1 else nI 0))) 23 s (I 22 s + pm_grM I f s - nI 1)) 26 s (t + (if pm_grM I f s = 0 then nI 500 else nI 1250)), J) f (I 19 s) (nI 17) (pm_grM I f s) (I 22 s) (nI 255) (I 20 s)
def pm_ask (D : zMd) (f s : Nat) (re : Int32) : zMd := match D with
  | (t, fr, lo, I, J) => if nI 3 ≤ I 24 s + nI 1 then pm_close (pm_putA (t, fr, lo, up2 I 24 s (I 24 s + nI 1), J) f (I 19 s) re (I 20 s)) f s else pm_grant (t, fr, lo, up2 I 24 s (I 24 s + nI 1), J) f s
def pm_opn (D : zMd) (f c : Nat) (src si gr al : Int32) : zMd := match D with
  | (t, fr, lo, I, J) =>
    if al = 0 then pm_grant (t, fr, lo, up2 (up2 (up2 (up2 (up2 (up2 (up2 (up2 (up2 I 17 f (nI c + nI 1)) 18 (2 * f + c) (vp_nar .boolean al)) 19 (2 * f + c) src) 20 (2 * f + c) gr) 21 (2 * f + c) si) 22 (2 * f + c) (nI 1)) 24 (2 * f + c) (nI 0)) 25 (2 * f + c) (vp_nar .boolean (nI 0))) 26 (2 * f + c) (t + nI 750), J) f (2 * f + c)
    else (t, fr, lo, up2 (up2 (up2 (up2 (up2 (up2 (up2 (up2 (up2 I 17 f (nI c + nI 1)) 18 (2 * f + c) (vp_nar .boolean al)) 19 (2 * f + c) src) 20 (2 * f + c) gr) 21 (2 * f + c) si) 22 (2 * f + c) (nI 1)) 24 (2 * f + c) (nI 0)) 25 (2 * f + c) (vp_nar .boolean (nI 0))) 26 (2 * f + c) (t + nI 750), J)
def pm_opened (D : zMd) (f c : Nat) (src si gr al : Int32) : zMd :=
  if pm_findK D.2.2.2.1 src al c (2 * f) < 0 then
    if c = 2 then (if al = 0 then pm_putA D f src (nI 2) gr else D) else pm_opn D f c src si gr al
  else pm_opn (pm_close D f (pm_findK D.2.2.2.1 src al c (2 * f)).toNatClampNeg) f (c - 1) src si gr al
def pm_sends (f : Nat) : Nat → Nat → zMd → zMd
  | 0, _, D => D
  | k + 1, a, D => pm_sends f k (a + 1) (pm_putP D f (nI a))
def pm_grantN (a c s : Nat) : Nat := min (a + c) (s + 1) - a
def pm_granted (D : zMd) (f c a s : Nat) : zMd := match D with
  | (t, fr, lo, I, J) => pm_sends f (pm_grantN a c s) a (t, fr, lo, up2 (up2 I 9 f (if c = 0 then nI 3 else nI 2)) 16 f (t + (if c = 0 then nI 1050 else nI 1250)), J)
theorem pm_put_I {D : zMd} {f : Nat} {pr fm tg : Int32} {d : Int64} {a : Nat} (h6 : a ≠ 6) (h8 : a ≠ 8) (j : Nat) : (pm_put D f pr fm tg d).2.2.2.1 a j = D.2.2.2.1 a j := by
  obtain ⟨t, fr, lo, I, J⟩ := D
  unfold pm_put
  simp only
  split
  · rfl
  · simp [up2_r, h6, h8]
theorem pm_putP_I {D : zMd} {f : Nat} {k : Int32} {a : Nat} (h6 : a ≠ 6) (h8 : a ≠ 8) (j : Nat) : (pm_putP D f k).2.2.2.1 a j = D.2.2.2.1 a j := by
  obtain ⟨t, fr, lo, I, J⟩ := D
  exact pm_put_I h6 h8 j
def pm_byte (d : Int64) (m : Nat) : Int32 := ((d >>> ((nI (8 * m + 8)).toInt64 &&& 63)) &&& lN 255).toInt32
/-- m bytes of the packet k come to the session s -/
def pm_kpB (I : Nat → Nat → Int32) (s k : Nat) (d : Int64) (m : Nat) : Nat → Nat → Int32 := fun a j => if a = 27 ∧ 49 * s + 7 * k - 7 ≤ j ∧ j < 49 * s + 7 * k - 7 + m then pm_byte d (j - (49 * s + 7 * k - 7)) else I a j
theorem pm_kpB_r (I : Nat → Nat → Int32) (s k : Nat) (d : Int64) (m a j : Nat) : pm_kpB I s k d m a j = if a = 27 ∧ 49 * s + 7 * k - 7 ≤ j ∧ j < 49 * s + 7 * k - 7 + m then pm_byte d (j - (49 * s + 7 * k - 7)) else I a j := rfl
theorem pm_kpB_0 (I : Nat → Nat → Int32) (s k : Nat) (d : Int64) : pm_kpB I s k d 0 = I := by
  funext a j
  unfold pm_kpB
  rw [if_neg (by omega)]
theorem pm_kpB_s {I : Nat → Nat → Int32} {s k m : Nat} {d : Int64} : up2 (pm_kpB I s k d m) 27 (49 * s + 7 * k - 7 + m) (pm_byte d m) = pm_kpB I s k d (m + 1) := by
  funext a j
  simp only [up2_r, pm_kpB]
  by_cases h : a = 27
  · subst h
    by_cases g : j = 49 * s + 7 * k - 7 + m
    · subst g
      rw [if_pos rfl, if_pos rfl, if_pos (by omega), show 49 * s + 7 * k - 7 + m - (49 * s + 7 * k - 7) = m by omega]
    · rw [if_pos rfl, if_neg g]
      by_cases g2 : 27 = 27 ∧ 49 * s + 7 * k - 7 ≤ j ∧ j < 49 * s + 7 * k - 7 + m
      · rw [if_pos g2, if_pos (by omega)]
      · rw [if_neg g2, if_neg (by omega)]
  · rw [if_neg h, if_neg (by simp [h]), if_neg (by simp [h])]
/-- k bytes of the session s come to the latest message of f -/
def pm_lsB (I : Nat → Nat → Int32) (f s k : Nat) : Nat → Nat → Int32 := fun a j => if a = 30 ∧ 49 * f ≤ j ∧ j < 49 * f + k then I 27 (49 * s + (j - 49 * f)) else I a j
theorem pm_lsB_0 (I : Nat → Nat → Int32) (f s : Nat) : pm_lsB I f s 0 = I := by
  funext a j
  unfold pm_lsB
  rw [if_neg (by omega)]
theorem pm_lsB_s {I : Nat → Nat → Int32} {f s k : Nat} : up2 (pm_lsB I f s k) 30 (49 * f + k) (pm_lsB I f s k 27 (49 * s + k)) = pm_lsB I f s (k + 1) := by
  have h1 : pm_lsB I f s k 27 (49 * s + k) = I 27 (49 * s + k) := by simp [pm_lsB]
  rw [h1]
  funext a j
  simp only [up2_r, pm_lsB]
  by_cases h : a = 30
  · subst h
    by_cases g : j = 49 * f + k
    · subst g
      rw [if_pos rfl, if_pos rfl, if_pos (by omega), show 49 * f + k - 49 * f = k by omega]
    · rw [if_pos rfl, if_neg g]
      by_cases g2 : 30 = 30 ∧ 49 * f ≤ j ∧ j < 49 * f + k
      · rw [if_pos g2, if_pos (by omega)]
      · rw [if_neg g2, if_neg (by omega)]
  · rw [if_neg h, if_neg (by simp [h]), if_neg (by simp [h])]
/-- the message of the session s is whole -/
def pm_whole (D : zMd) (f s : Nat) : zMd := match D with
  | (t, fr, lo, I, J) => pm_close (t, fr, lo, pm_lsB (up2 (up2 (up2 (up2 (up2 I 28 f (I 28 f + nI 1)) 29 (4 * f) (I 19 s)) 29 (4 * f + 1) (I 20 s)) 29 (4 * f + 2) (I 21 s)) 29 (4 * f + 3) (if I 18 s = 0 then nI 0 else nI 1)) f s 49, J) f s
def pm_kept (D : zMd) (s k : Nat) (d : Int64) : zMd := match D with
  | (t, fr, lo, I, J) => (t, fr, lo, up2 (pm_kpB I s k d 7) 22 s (I 22 s + nI 1), J)
def pm_setDue (D : zMd) (s : Nat) : zMd := match D with
  | (t, fr, lo, I, J) => (t, fr, lo, up2 I 26 s (t + nI 750), J)
def pm_keep (D : zMd) (f s k : Nat) (d : Int64) : zMd := match D with
  | (t, fr, lo, I, J) =>
    if pm_pk (I 21 s) ≤ nI k then
      if I 18 s = 0 then pm_whole (pm_putC (pm_kept (t, fr, lo, I, J) s k d) f (I 19 s) (nI 19) (I 21 s &&& nI 255) (I 21 s >>> (nI 8 &&& 31)) (pm_pk (I 21 s)) (I 20 s)) f s else pm_whole (pm_kept (t, fr, lo, I, J) s k d) f s
    else if I 18 s = 0 ∧ nI k = I 23 s then pm_grant (pm_kept (t, fr, lo, I, J) s k d) f s else pm_setDue (pm_kept (t, fr, lo, I, J) s k d) s
def pm_fbk (d : Int64) : Int32 := (d &&& lN 255).toInt32
def pm_pktS (D : zMd) (f s : Nat) (d : Int64) : zMd := match D with
  | (t, fr, lo, I, J) =>
    if pm_fbk d = I 22 s ∧ (¬ I 18 s = 0 ∨ ¬ I 23 s < pm_fbk d) then pm_keep (t, fr, lo, I, J) f s (pm_fbk d).toNatClampNeg d
    else if I 18 s = 0 then (if pm_fbk d = I 23 s ∧ ¬ pm_fbk d ≤ I 22 s then pm_ask (t, fr, lo, I, J) f s (nI 5) else (t, fr, lo, I, J))
    else (if pm_fbk d ≤ I 22 s then (t, fr, lo, I, J) else pm_close (t, fr, lo, I, J) f s)
def pm_packet (D : zMd) (f c : Nat) (tg src : Int32) (d : Int64) : zMd :=
  if pm_findK D.2.2.2.1 src (if tg = nI 255 then nI 1 else nI 0) c (2 * f) < 0 then D
  else pm_pktS D f (pm_findK D.2.2.2.1 src (if tg = nI 255 then nI 1 else nI 0) c (2 * f)).toNatClampNeg d
def pm_fb2 (d : Int64) : Int32 := ((d >>> ((nI 8).toInt64 &&& 63)) &&& lN 255).toInt32
def pm_fb3 (d : Int64) : Int32 := ((d >>> ((nI 16).toInt64 &&& 63)) &&& lN 255).toInt32
def pm_grp (d : Int64) : Int32 := ((d >>> ((nI 40).toInt64 &&& 63)) &&& lN 16777215).toInt32
def pm_ans (I : Nat → Nat → Int32) (f : Nat) (src gr : Int32) : Bool := !decide (I 9 f < nI 2) && decide (I 11 f = src) && decide (I 12 f = gr)
def pm_abS (D : zMd) (f : Nat) (r gr : Int32) : zMd := if r < 0 then D else if D.2.2.2.1 20 r.toNatClampNeg = gr then pm_close D f r.toNatClampNeg else D
def pm_control (D : zMd) (f c : Nat) (tg src : Int32) (d : Int64) : zMd :=
  if tg = nI 255 then (if pm_fbk d = nI 32 then pm_opened D f c src (pm_fb2 d + nI 256 * pm_fb3 d) (pm_grp d) (nI 1) else D)
  else if pm_fbk d = nI 16 then pm_opened D f c src (pm_fb2 d + nI 256 * pm_fb3 d) (pm_grp d) (nI 0)
  else if pm_fbk d = nI 17 ∧ pm_ans D.2.2.2.1 f src (pm_grp d) = true then pm_granted D f (pm_fb2 d).toNatClampNeg (pm_fb3 d).toNatClampNeg (pm_pk (D.2.2.2.1 13 f)).toNatClampNeg
  else if pm_fbk d = nI 19 ∧ pm_ans D.2.2.2.1 f src (pm_grp d) = true then pm_fin D f (nI 10)
  else if pm_fbk d = nI 255 then
    (if pm_ans D.2.2.2.1 f src (pm_grp d) = true then pm_abS (pm_fin D f (nI 20 + pm_fb2 d)) f (pm_findK D.2.2.2.1 src (nI 0) c (2 * f)) (pm_grp d) else pm_abS D f (pm_findK D.2.2.2.1 src (nI 0) c (2 * f)) (pm_grp d))
  else D
def pm_claimed (D : zMd) (f s : Nat) (src : Int32) (other : Int64) : zMd := match D with
  | (t, fr, lo, I, J) =>
    if I 0 f = nI 3 then (t, fr, lo, up2 I 5 (5 * f + s) src, J)
    else if src = I 1 f then
      if pm_below (J 2 f) other = true then pm_putCl (t, fr, lo, up2 (up2 I 5 (5 * f + s) src) 4 f (if I 0 f = nI 1 then t + nI 250 else I 4 f), J) f
      else if J 2 f < lN 0 ∧ ¬ pm_spare (up2 I 5 (5 * f + s) src) f < 0 then
        pm_putCl (t, fr, lo, up2 (up2 (up2 (up2 (up2 (up2 (up2 I 5 (5 * f + s) src) 10 f (if I 9 f ≤ 0 then I 10 f else nI 13)) 9 f (nI 0)) 17 f (nI 0)) 0 f (nI 1)) 1 f (pm_spare (up2 I 5 (5 * f + s) src) f)) 4 f (t + nI 250), J) f
      else
        pm_putCl (t, fr, lo, up2 (up2 (up2 (up2 (up2 (up2 (up2 I 5 (5 * f + s) src) 10 f (if I 9 f ≤ 0 then I 10 f else nI 13)) 9 f (nI 0)) 17 f (nI 0)) 0 f (nI 3)) 1 f (I 1 f)) 4 f (t + nI 250), J) f
    else (t, fr, lo, up2 I 5 (5 * f + s) src, J)
def pm_reach (D : zMd) (f c s : Nat) (fm tg src : Int32) (d : Int64) : zMd :=
  if fm = nI 238 then pm_claimed D f s src d else if fm = nI 234 then pm_putCl D f else if fm = nI 236 then pm_control D f c tg src d else pm_packet D f c tg src d
