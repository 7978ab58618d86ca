/-! What the reference's methods do, in numbers. Arrays by number: 0 state, 1 held, 2 name, 3 occupied, 4 claimDue, 5 notes, 6 frameId, 7 frameData, 8 frameSender, 9 out, 10 result, 11 outOther, 12 outGroup, 13 outSize, 14 outSeed, 15 outNext, 16 outDue, 17 ins, 18 inAll, 19 inFrom, 20 inGroup, 21 inSize, 22 inExpected, 23 inLast, 24 inAsked, 25 inHeld, 26 inDue, 27 inBytes, 28 arrived, 29 last, 30 lastBytes. -/
theorem up2_r {α : Type} (I : Nat → Nat → α) (k i : Nat) (v : α) (a j : Nat) : up2 I k i v a j = if a = k then (if j = i then v else I a j) else I a j := rfl
theorem up2_self {α : Type} (I : Nat → Nat → α) (k i : Nat) (v : α) : up2 I k i v k i = v := by simp [up2_r]
section ZR
variable {E : zxE} {M : zxM} {Y : zxY} {pc cells slots n : Nat} {L : List (Option Value)} {st : List Value} {h : zxH}
theorem zx_topr {I' I : Nat → Nat → Int32} {k j : Nat} (hI : ∀ j, I' k j = I k j) (kk : zx_X E M Y pc L (.int (I k j) :: st) h n cells slots) : zx_X E M Y pc L (.int (I' k j) :: st) h n cells slots := by rw [hI]; exact kk
theorem zx_toprl {I' I : Nat → Nat → Int64} {k j : Nat} (hI : ∀ j, I' k j = I k j) (kk : zx_X E M Y pc L (.long (I k j) :: st) h n cells slots) : zx_X E M Y pc L (.long (I' k j) :: st) h n cells slots := by rw [hI]; exact kk
end ZR
theorem pm_in {x : Int32} (h1 : ¬ x < 0) (h2 : ¬ nI 4 < x) : ∃ f : Nat, f < 5 ∧ x = nI f := by
  obtain ⟨j, hj, rfl⟩ := nI_of h1
  refine ⟨j, ?_, rfl⟩
  by_cases g : j < 5
  · exact g
  · exact absurd ((nI_ltI (by decide) hj).mpr (by omega)) h2
def pm_on (I : Nat → Nat → Int32) (x : Int32) : Bool := !decide (x < 0) && !decide (nI 4 < x) && !decide (I 0 x.toNatClampNeg = 0)
theorem pm_on_n {I : Nat → Nat → Int32} {x : Int32} (h : pm_on I x = true) : ∃ f : Nat, f < 5 ∧ x = nI f := by
  simp only [pm_on, Bool.and_eq_true, Bool.not_eq_true', decide_eq_false_iff_not] at h
  exact pm_in h.1.1 h.1.2
def pm_pk (z : Int32) : Int32 := (z + nI 6) / nI 7
def pm_src (I : Nat → Nat → Int32) (f : Nat) : Int32 := if I 0 f = nI 3 then nI 254 else I 1 f
def pm_id (pr fm tg src : Int32) : Int32 := (((pr <<< (nI 26 &&& 31)) ||| (fm <<< (nI 16 &&& 31))) ||| (tg <<< (nI 8 &&& 31))) ||| src
def pm_put (D : zMd) (f : Nat) (pr fm tg : Int32) (d : Int64) : zMd := match D with
  | (t, fr, lo, I, J) => if fr = 48 then (t, fr, lo + nI 1, I, J) else (t, fr + 1, lo, up2 (up2 I 6 fr (pm_id pr fm tg (pm_src I f))) 8 fr (nI f), up2 J 7 fr d)
def pm_putCl (D : zMd) (f : Nat) : zMd := pm_put D f (nI 6) (nI 238) (nI 255) (D.2.2.2.2 2 f)
def pm_ctl (ki x2 x3 x4 gr : Int32) : Int64 :=
  ((((ki.toInt64 ||| (x2.toInt64 <<< ((nI 8).toInt64 &&& 63))) ||| (x3.toInt64 <<< ((nI 16).toInt64 &&& 63))) ||| (x4.toInt64 <<< ((nI 24).toInt64 &&& 63))) ||| lN 1095216660480) ||| (gr.toInt64 <<< ((nI 40).toInt64 &&& 63))
def pm_putC (D : zMd) (f : Nat) (tg ki x2 x3 x4 gr : Int32) : zMd := pm_put D f (nI 7) (nI 236) tg (pm_ctl ki x2 x3 x4 gr)
def pm_putA (D : zMd) (f : Nat) (tg re gr : Int32) : zMd := pm_putC D f tg (nI 255) re (nI 255) (nI 255) gr
def pm_acc (si : Int32) (se : Int64) (k : Int32) : Nat → Int64
  | 0 => k.toInt64
  | m + 1 => pm_acc si se k m ||| (pc_val si se (nI 7 * k - nI 7 + nI m) <<< ((nI (8 * m + 8)).toInt64 &&& 63))
def pm_putP (D : zMd) (f : Nat) (k : Int32) : zMd := match D with
  | (t, fr, lo, I, J) => pm_put (t, fr, lo, I, J) f (nI 7) (nI 235) (I 11 f) (pm_acc (I 13 f) (J 14 f) k 7)
def pm_shI (I : Nat → Nat → Int32) (p e : Nat) : Nat → Nat → Int32 := fun a => if a = 6 then pc_shift (I 6) p e else if a = 8 then pc_shift (I 8) p e else I a
def pm_shJ (J : Nat → Nat → Int64) (p e : Nat) : Nat → Nat → Int64 := fun a => if a = 7 then pc_shift (J 7) p e else J a
def pm_take (D : zMd) (p : Nat) : zMd := match D with
  | (t, fr, lo, I, J) => (t, fr - 1, lo, pm_shI I p (fr - 1), pm_shJ J p (fr - 1))
theorem pm_shI_0 (I : Nat → Nat → Int32) (p : Nat) : pm_shI I p p = I := by
  funext a
  unfold pm_shI
  rw [pc_shift_0, pc_shift_0]
  by_cases h : a = 6
  · subst h; rfl
  · by_cases g : a = 8
    · subst g; rfl
    · rw [if_neg h, if_neg g]
theorem pm_shJ_0 (J : Nat → Nat → Int64) (p : Nat) : pm_shJ J p p = J := by
  funext a
  unfold pm_shJ
  rw [pc_shift_0]
  by_cases h : a = 7
  · subst h; rfl
  · rw [if_neg h]
theorem up2_fun (I : Nat → Nat → Int32) (k i : Nat) (v : Int32) : up2 I k i v = fun a => if a = k then upd (I k) i v else I a := by
  funext a j
  unfold up2 upd
  by_cases h : a = k
  · subst h; simp
  · simp [h]
theorem up2_funL (I : Nat → Nat → Int64) (k i : Nat) (v : Int64) : up2 I k i v = fun a => if a = k then vp_updL (I k) i v else I a := by
  funext a j
  unfold up2 vp_updL
  by_cases h : a = k
  · subst h; simp
  · simp [h]
theorem pm_shI_s {I : Nat → Nat → Int32} {p e : Nat} (h : p ≤ e) : up2 (up2 (pm_shI I p e) 6 e (pm_shI I p e 6 (e + 1))) 8 e (pm_shI I p e 8 (e + 1)) = pm_shI I p (e + 1) := by
  have h6 : pm_shI I p e 6 = pc_shift (I 6) p e := rfl
  have h8 : pm_shI I p e 8 = pc_shift (I 8) p e := rfl
  rw [up2_fun, up2_fun, h6, h8]
  funext a
  by_cases g : a = 8
  · subst g
    simp only [if_true]
    show upd (pc_shift (I 8) p e) e (pc_shift (I 8) p e (e + 1)) = pc_shift (I 8) p (e + 1)
    rw [pc_shift_s h]
  · by_cases g6 : a = 6
    · subst g6
      show upd (pc_shift (I 6) p e) e (pc_shift (I 6) p e (e + 1)) = pc_shift (I 6) p (e + 1)
      rw [pc_shift_s h]
    · simp [g, g6, pm_shI]
theorem pm_shJ_s {J : Nat → Nat → Int64} {p e : Nat} (h : p ≤ e) : up2 (pm_shJ J p e) 7 e (pm_shJ J p e 7 (e + 1)) = pm_shJ J p (e + 1) := by
  have h7 : pm_shJ J p e 7 = pc_shift (J 7) p e := rfl
  rw [up2_funL, h7]
  funext a
  by_cases g : a = 7
  · subst g
    show vp_updL (pc_shift (J 7) p e) e (pc_shift (J 7) p e (e + 1)) = pc_shift (J 7) p (e + 1)
    rw [pc_shift_l h]
  · simp [g, pm_shJ]
def pm_fin (D : zMd) (f : Nat) (how : Int32) : zMd := match D with
  | (t, fr, lo, I, J) => (t, fr, lo, up2 (up2 I 9 f (nI 0)) 10 f how, J)
def pm_below (x y : Int64) : Bool := if (x < lN 0) = (y < lN 0) then decide (x < y) else decide (y < lN 0)
