/-! What the sessions do, in numbers. -/
theorem zb_1 : nI 1 = zb true := by decide
theorem zb_f : nI 0 = zb false := by decide
theorem zb_n0 {x : Bool} : ¬ zb x = 0 ↔ x = true := by cases x <;> decide
def pc_mkeep (m : zMs) (k : Nat) (d : Int64) : zMs := match m with
  | (pk, so, gr, si, ta) => if 1 ≤ k ∧ k ≤ 7 then (vp_updL pk (k - 1) d, so, gr, si, ta) else (pk, so, gr, si, ta)
/-- the first k packets of p2, the rest of p1 -/
def pc_over (p1 p2 : Nat → Int64) (k : Nat) : Nat → Int64 := fun i => if i < k then p2 i else p1 i
theorem pc_over_0 (p1 p2 : Nat → Int64) : pc_over p1 p2 0 = p1 := by
  funext i
  simp [pc_over]
theorem pc_over_s (p1 p2 : Nat → Int64) (k : Nat) : vp_updL (pc_over p1 p2 k) k (p2 k) = pc_over p1 p2 (k + 1) := by
  funext i
  by_cases h : i = k
  · subst h
    simp [pc_over, vp_updL]
  · by_cases g : i < k
    · have : i < k + 1 := by omega
      simp [pc_over, vp_updL, h, g, this]
    · have : ¬ i < k + 1 := by omega
      simp [pc_over, vp_updL, h, g, this]
def pc_copy (m x : zMs) : zMs := (pc_over m.1 x.1 7, x.2.1, x.2.2.1, x.2.2.2.1, x.2.2.2.2)
def pc_byteAt (m : zMs) (i : Int32) : Int32 :=
  if i < 0 then -1 else if m.2.2.2.1 ≤ i then -1 else if i < nI 49 then pc_fb (m.1 (i.toNatClampNeg / 7)) (i - i / nI 7 * nI 7 + nI 2) else -1
def pc_val (si : Int32) (se : Int64) (i : Int32) : Int64 :=
  if si ≤ i then lN 255 else ((se >>> ((nI 8 * (i - i / nI 8 * nI 8)).toInt64 &&& 63)) + i.toInt64) &&& lN 255
def pc_acc (si : Int32) (se : Int64) (k : Int32) : Nat → Int64
  | 0 => k.toInt64
  | m + 1 => pc_acc si se k m + (pc_val si se (nI 7 * (k - nI 1) + nI m) <<< ((nI (8 * (m + 1))).toInt64 &&& 63))
def pc_oend (x : zOu) (how : Int32) : zOu := match x with
  | (_, _, tg, gr, si, se, nx, _) => (nI 0, how, tg, gr, si, se, nx, pc_NEVER)
def pc_obegin (B : zB) (num ad : Int32) (x : zOu) (tg gr si : Int32) (se : Int64) : zB × zOu := match x with
  | (_, re, _, _, _, _, _, _) =>
    if tg = nI 255 then
      (pc_put B num ad (nI 485228544) tg (pc_ext (nI 32) si gr), (nI 1, re, tg, gr, si, se, nI 1, (pc_put B num ad (nI 485228544) tg (pc_ext (nI 32) si gr)).2.2.2.2.2 + lN 50))
    else
      (pc_put B num ad (nI 485228544) tg (pc_ext (nI 16) si gr), (nI 2, re, tg, gr, si, se, nI 1, (pc_put B num ad (nI 485228544) tg (pc_ext (nI 16) si gr)).2.2.2.2.2 + lN 1250))
def pc_isWith (x : zOu) (so gr : Int32) : Bool := match x with
  | (ph, _, tg, gp, _, _, _, _) => (decide (ph = nI 2) || decide (ph = nI 3)) && decide (tg = so) && decide (gp = gr)
def pc_sendPkt (B : zB) (num ad : Int32) (x : zOu) (k : Int32) : zB := pc_put B num ad (nI 485163008) x.2.2.1 (pc_acc x.2.2.2.2.1 x.2.2.2.2.2.1 k 7)
/-- k packets, from a on -/
def pc_sends (num ad : Int32) (x : zOu) : Nat → Nat → zB → zB
  | 0, _, B => B
  | k + 1, a, B => pc_sends num ad x k (a + 1) (pc_sendPkt B num ad x (nI a))
def pc_grantN (a c s : Nat) : Nat := min (a + c - 1) s + 1 - a
def pc_takeGrant (B : zB) (num ad : Int32) (x : zOu) (c a s : Nat) : zB × zOu := match x with
  | (_, re, tg, gr, si, se, nx, _) =>
    if c = 0 then (B, (nI 3, re, tg, gr, si, se, nx, B.2.2.2.2.2 + lN 1050))
    else (pc_sends num ad x (pc_grantN a c s) a B, (nI 2, re, tg, gr, si, se, nx, (pc_sends num ad x (pc_grantN a c s) a B).2.2.2.2.2 + lN 1250))
def pc_sendNext (B : zB) (num ad : Int32) (x : zOu) : zB × zOu := match x with
  | (ph, re, tg, gr, si, se, nx, du) =>
    if nx + nI 1 ≤ pc_pk si then (pc_sendPkt B num ad x nx, (ph, re, tg, gr, si, se, nx + nI 1, (pc_sendPkt B num ad x nx).2.2.2.2.2 + lN 50))
    else (pc_sendPkt B num ad x nx, pc_oend (ph, re, tg, gr, si, se, nx + nI 1, du) (nI 10))
def pc_ogoOff (B : zB) (num ad : Int32) (x : zOu) : zB × zOu :=
  if x.1 = nI 1 then pc_sendNext B num ad x else (pc_put B num ad (nI 485228544) x.2.2.1 (pc_abt (nI 3) x.2.2.2.1), pc_oend x (nI 11))
def pc_iend (x : zIn) : zIn := match x with
  | (ms, _, he, ex, lt, ak, _) => (ms, false, he, ex, lt, ak, pc_NEVER)
def pc_isFrom (x : zIn) (so : Int32) (ta : Bool) : Bool := x.2.1 && decide (x.1.2.1 = so) && decide (x.1.2.2.2.2 = ta)
def pc_grant (B : zB) (num ad : Int32) (bz : Bool) (x : zIn) : zB × zIn := match x with
  | ((pk, so, gr, si, ta), op, _, ex, _, ak, _) =>
    if bz = true then
      (pc_put B num ad (nI 485228544) so (pc_ctl (nI 17) (nI 0) (nI ex) (nI 255) gr), ((pk, so, gr, si, ta), op, bz, ex, nI ex + nI 0 - nI 1, ak, (pc_put B num ad (nI 485228544) so (pc_ctl (nI 17) (nI 0) (nI ex) (nI 255) gr)).2.2.2.2.2 + lN 500))
    else
      (pc_put B num ad (nI 485228544) so (pc_ctl (nI 17) (if pc_pk si - nI ex + nI 1 < nI 3 then pc_pk si - nI ex + nI 1 else nI 3) (nI ex) (nI 255) gr), ((pk, so, gr, si, ta), op, bz, ex, nI ex + (if pc_pk si - nI ex + nI 1 < nI 3 then pc_pk si - nI ex + nI 1 else nI 3) - nI 1, ak, (pc_put B num ad (nI 485228544) so (pc_ctl (nI 17) (if pc_pk si - nI ex + nI 1 < nI 3 then pc_pk si - nI ex + nI 1 else nI 3) (nI ex) (nI 255) gr)).2.2.2.2.2 + lN 1250))
def pc_ibegin (B : zB) (num ad : Int32) (bz : Bool) (x : zIn) (so gr si : Int32) (ta : Bool) : zB × zIn := match x with
  | ((pk, _, _, _, _), _, he, _, lt, _, du) =>
    if ta = true then (B, ((pk, so, gr, si, ta), true, he, 1, lt, nI 0, B.2.2.2.2.2 + lN 750))
    else pc_grant B num ad bz ((pk, so, gr, si, ta), true, he, 1, lt, nI 0, du)
def pc_askAgain (B : zB) (num ad : Int32) (bz : Bool) (x : zIn) (re : Int32) : zB × zIn := match x with
  | ((pk, so, gr, si, ta), op, he, ex, lt, ak, du) =>
    if nI 3 ≤ ak + nI 1 then (pc_put B num ad (nI 485228544) so (pc_abt re gr), pc_iend ((pk, so, gr, si, ta), op, he, ex, lt, ak + nI 1, du))
    else pc_grant B num ad bz ((pk, so, gr, si, ta), op, he, ex, lt, ak + nI 1, du)
def pc_igoOff (B : zB) (num ad : Int32) (bz : Bool) (x : zIn) : zB × zIn :=
  if x.1.2.2.2.2 = true then (B, pc_iend x) else if x.2.2.1 = true then pc_grant B num ad bz x else pc_askAgain B num ad bz x (nI 3)
def pc_keepEx (x : zIn) (d : Int64) : zIn := match x with
  | (ms, op, he, ex, lt, ak, du) => (pc_mkeep ms ex d, op, he, ex + 1, lt, ak, du)
def pc_isWhole (x : zIn) : Bool := !decide (nI x.2.2.2.1 ≤ pc_pk x.1.2.2.2.1)
def pc_setDue (x : zIn) (du : Int64) : zIn := match x with
  | (ms, op, he, ex, lt, ak, _) => (ms, op, he, ex, lt, ak, du)
def pc_takeAll (B : zB) (x : zIn) (d : Int64) : Bool × zIn :=
  if pc_fb d (nI 1) = nI x.2.2.2.1 then
    if pc_isWhole (pc_keepEx x d) = true then (true, pc_iend (pc_keepEx x d)) else (false, pc_setDue (pc_keepEx x d) (B.2.2.2.2.2 + lN 750))
  else if pc_fb d (nI 1) ≤ nI x.2.2.2.1 then (false, x) else (false, pc_iend x)
def pc_takeDv (B : zB) (num ad : Int32) (bz : Bool) (x : zIn) (d : Int64) (v : Int32) : Bool × zB × zIn :=
  if v = nI x.2.2.2.1 ∧ v ≤ x.2.2.2.2.1 then
    if pc_isWhole (pc_keepEx x d) = true then
      (true, pc_put B num ad (nI 485228544) (pc_keepEx x d).1.2.1 (pc_ext (nI 19) (pc_keepEx x d).1.2.2.2.1 (pc_keepEx x d).1.2.2.1), pc_iend (pc_keepEx x d))
    else if nI (pc_keepEx x d).2.2.2.1 ≤ (pc_keepEx x d).2.2.2.2.1 then (false, B, pc_setDue (pc_keepEx x d) (B.2.2.2.2.2 + lN 750))
    else (false, pc_grant B num ad bz (pc_keepEx x d))
  else if v = x.2.2.2.2.1 ∧ ¬ v ≤ nI x.2.2.2.1 then (false, pc_askAgain B num ad bz x (nI 5))
  else (false, B, x)
def pc_takeDir (B : zB) (num ad : Int32) (bz : Bool) (x : zIn) (d : Int64) : Bool × zB × zIn := pc_takeDv B num ad bz x d (pc_fb d (nI 1))
section ZG
variable {E : zxE} {M : zxM} {Y : zxY} {pc q cells slots n : Nat} {L : List (Option Value)} {st : List Value} {h : zxH}
/-- what is known of some locals is forgotten -/
theorem zx_fg {L' : List (Option Value)} (hL : ∀ (j : Nat) (w : Value), zx_nth L' j = some w → zx_nth L j = some w) (k : zx_X E M Y pc L' st h n cells slots) : zx_X E M Y pc L st h n cells slots := by
  intro p e s m args below meth c ls H locs C hl hR hS hb
  refine k p e s m args below meth c ls H locs C ⟨hl.1, hl.2.1, fun q hq => hl.2.2 q ?_⟩ hR hS hb
  have h1 := (zx_as_inv L' 0 q hq).2
  rw [Nat.sub_zero] at h1
  have := zx_as_mem L 0 q.1 q.2 (hL _ _ h1)
  rw [Nat.zero_add] at this
  exact this
end ZG
theorem zx_nth_none : ∀ (m j : Nat), zx_nth (List.replicate m none) j = none
  | 0, _ => rfl
  | _ + 1, 0 => rfl
  | m + 1, j + 1 => zx_nth_none m j
/-- behind the first ones nothing is kept -/
theorem zx_fgp (pre rr : List (Option Value)) (m : Nat) : ∀ (j : Nat) (w : Value), zx_nth (pre ++ List.replicate m none) j = some w → zx_nth (pre ++ rr) j = some w := by
  intro j w hw
  rw [zx_nth_app] at hw ⊢
  by_cases hj : j < pre.length
  · rw [if_pos hj] at hw ⊢
    exact hw
  · rw [if_neg hj, zx_nth_none] at hw
    cases hw
