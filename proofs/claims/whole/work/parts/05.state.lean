/-! What a state is: numbers and functions; where they lie in the heap (b: the first address). -/
/-- the bus: identifiers, contents, senders, count, overflows, now -/
abbrev zB : Type := (Nat → Int32) × (Nat → Int64) × (Nat → Int32) × Nat × Int32 × Int64
/-- a message: packets, source, group, size, toAll -/
abbrev zMs : Type := (Nat → Int64) × Int32 × Int32 × Int32 × Bool
/-- the outgoing session: phase, result, target, group, size, seed, nextPacket, due -/
abbrev zOu : Type := Int32 × Int32 × Int32 × Int32 × Int32 × Int64 × Int32 × Int64
/-- an incoming session: message, whether it goes on, held, expected, last, asked, due -/
abbrev zIn : Type := zMs × Bool × Bool × Nat × Int32 × Int32 × Int64
/-- a function: address, busy, noted, which room is the first (0 or 1), latest, outgoing, the two rooms, deliveries, state, name, holdDue -/
abbrev zFn : Type := Int32 × Bool × (Nat → Int32) × Nat × zMs × zOu × (Nat → zIn) × Int32 × Int32 × Int64 × Int64
/-- the reference: now, frames, lost, its arrays of ints (booleans too) and of longs by their numbers -/
abbrev zMd : Type := Int32 × Nat × Int32 × (Nat → Nat → Int32) × (Nat → Nat → Int64)
abbrev zS : Type := zB × (Nat → zFn) × zMd
def zb (x : Bool) : Int32 := if x then 1 else 0
def fa (b f i : Nat) : Nat := b + (6 + 13 * f + i)
def ma (b k : Nat) : Nat := b + (72 + k)
def foc {α : Type} (F : Nat → α) (f : Nat) (G : α) : Nat → α := fun g => if g = f then G else F g
theorem foc_at {α : Type} (F : Nat → α) (f : Nat) (G : α) : foc F f G f = G := if_pos rfl
theorem foc_ne {α : Type} (F : Nat → α) {f g : Nat} (G : α) (h : g ≠ f) : foc F f G g = F g := if_neg h
theorem foc_foc {α : Type} (F : Nat → α) (f : Nat) (G G' : α) : foc (foc F f G) f G' = foc F f G' := by
  funext g
  by_cases h : g = f
  · subst h
    rw [foc_at, foc_at]
  · rw [foc_ne _ _ h, foc_ne _ _ h, foc_ne _ _ h]
theorem foc_self {α : Type} (F : Nat → α) (f : Nat) : foc F f (F f) = F := by
  funext g
  by_cases h : g = f
  · subst h
    rw [foc_at]
  · rw [foc_ne _ _ h]
def zc_ms (q : Nat) (m : zMs) : va_E := match m with
  | (_, so, gr, si, ta) => .inr (3, [.ref q, .int so, .int gr, .int si, .int (zb ta)])
def zc_pk (m : zMs) : va_E := .inl (1, 7, .inr (.inl m.1))
def zc_ou (b f : Nat) (x : zOu) : va_E := match x with
  | (ph, re, tg, gr, si, se, nx, du) => .inr (4, [.ref (b + 1), .ref (fa b f 1), .int ph, .int re, .int tg, .int gr, .int si, .long se, .int nx, .long du])
def zc_in (b f p : Nat) (x : zIn) : va_E := match x with
  | (_, op, he, ex, la, ak, du) => .inr (2, [.ref (b + 1), .ref (fa b f 1), .ref (fa b f (8 + 3 * p)), .int (zb op), .int (zb he), .int (nI ex), .int la, .int ak, .long du])
def zc_ord (b f o : Nat) : Nat → Option Nat := fun i => if i = 0 then some (fa b f (7 + 3 * o)) else if i = 1 then some (fa b f (7 + 3 * (1 - o))) else none
def zc_fns (b : Nat) : Nat → Option Nat := fun i => if i < 5 then some (fa b i 0) else none
theorem fns_at {b j : Nat} (h : j < 5) : zc_fns b j = some (fa b j 0) := if_pos h
def zc_fn (b f : Nat) (G : zFn) (i : Nat) : va_E := match G with
  | (ad, bz, nt, o, la, ou, xs, de, st, nm, hd) => match i with
    | 0 => .inr (1, [.ref (b + 1), .ref (fa b f 1), .ref (fa b f 2), .ref (fa b f 6), .ref (fa b f 3), .ref (fa b f 4), .int de, .int st, .long nm, .long hd])
    | 1 => .inr (5, [.int (nI f), .int ad, .int (zb bz)])
    | 2 => .inl (0, 5, .inl nt)
    | 3 => .inl (4, 2, .inr (.inr (.inr (.inr (zc_ord b f o)))))
    | 4 => zc_ms (fa b f 5) la
    | 5 => zc_pk la
    | 6 => zc_ou b f ou
    | 7 => zc_in b f 0 (xs 0)
    | 8 => zc_ms (fa b f 9) (xs 0).1
    | 9 => zc_pk (xs 0).1
    | 10 => zc_in b f 1 (xs 1)
    | 11 => zc_ms (fa b f 12) (xs 1).1
    | _ => zc_pk (xs 1).1
def zc_bus (b : Nat) (B : zB) (i : Nat) : va_E := match B with
  | (ids, con, snd, cnt, ovf, now) => match i with
    | 0 => .inr (6, [.ref (b + 1), .ref (b + 5)])
    | 1 => .inr (0, [.ref (b + 2), .ref (b + 3), .ref (b + 4), .int (nI cnt), .int ovf, .long now])
    | 2 => .inl (0, 48, .inl ids)
    | 3 => .inl (1, 48, .inr (.inl con))
    | 4 => .inl (0, 48, .inl snd)
    | _ => .inl (3, 5, .inr (.inr (.inr (.inr (zc_fns b)))))
def zc_md (b : Nat) (D : zMd) (i : Nat) : va_E := match D with
  | (t, fr, lo, I, J) => match i with
    | 0 => .inr (7, [.int t, .ref (ma b 0), .ref (ma b 1), .ref (ma b 2), .ref (ma b 3), .ref (ma b 4), .ref (ma b 5), .int (nI fr), .ref (ma b 6), .ref (ma b 7), .ref (ma b 8), .int lo, .ref (ma b 9), .ref (ma b 10), .ref (ma b 11), .ref (ma b 12), .ref (ma b 13), .ref (ma b 14), .ref (ma b 15), .ref (ma b 16), .ref (ma b 17), .ref (ma b 18), .ref (ma b 19), .ref (ma b 20), .ref (ma b 21), .ref (ma b 22), .ref (ma b 23), .ref (ma b 24), .ref (ma b 25), .ref (ma b 26), .ref (ma b 27), .ref (ma b 28), .ref (ma b 29), .ref (ma b 30)])
    | 1 => .inl (0, 5, .inl (I 0))
    | 2 => .inl (0, 5, .inl (I 1))
    | 3 => .inl (1, 5, .inr (.inl (J 2)))
    | 4 => .inl (2, 5, .inl (I 3))
    | 5 => .inl (0, 5, .inl (I 4))
    | 6 => .inl (0, 25, .inl (I 5))
    | 7 => .inl (0, 48, .inl (I 6))
    | 8 => .inl (1, 48, .inr (.inl (J 7)))
    | 9 => .inl (0, 48, .inl (I 8))
    | 10 => .inl (0, 5, .inl (I 9))
    | 11 => .inl (0, 5, .inl (I 10))
    | 12 => .inl (0, 5, .inl (I 11))
    | 13 => .inl (0, 5, .inl (I 12))
    | 14 => .inl (0, 5, .inl (I 13))
    | 15 => .inl (1, 5, .inr (.inl (J 14)))
    | 16 => .inl (0, 5, .inl (I 15))
    | 17 => .inl (0, 5, .inl (I 16))
    | 18 => .inl (0, 5, .inl (I 17))
    | 19 => .inl (2, 10, .inl (I 18))
    | 20 => .inl (0, 10, .inl (I 19))
    | 21 => .inl (0, 10, .inl (I 20))
    | 22 => .inl (0, 10, .inl (I 21))
    | 23 => .inl (0, 10, .inl (I 22))
    | 24 => .inl (0, 10, .inl (I 23))
    | 25 => .inl (0, 10, .inl (I 24))
    | 26 => .inl (2, 10, .inl (I 25))
    | 27 => .inl (0, 10, .inl (I 26))
    | 28 => .inl (0, 490, .inl (I 27))
    | 29 => .inl (0, 5, .inl (I 28))
    | 30 => .inl (0, 20, .inl (I 29))
    | _ => .inl (0, 245, .inl (I 30))
def zc (b : Nat) (S : zS) (c : Nat) : Option va_E := if c < 6 then some (zc_bus b S.1 c) else if c < 71 then some (zc_fn b ((c - 6) / 13) (S.2.1 ((c - 6) / 13)) ((c - 6) % 13)) else if c < 103 then some (zc_md b S.2.2 (c - 71)) else none
def zs (b : Nat) (S : zS) : zxH := fun a => if a < b then none else zc b S (a - b)
theorem zs_at (b : Nat) (S : zS) (c : Nat) : zs b S (b + c) = zc b S c := by
  unfold zs
  rw [if_neg (by omega), Nat.add_sub_cancel_left]
theorem at_bus {b : Nat} {B : zB} {F : Nat → zFn} {D : zMd} (c : Nat) (h : c < 6) : zs b (B, F, D) (b + c) = some (zc_bus b B c) := by
  rw [zs_at]
  unfold zc
  rw [if_pos h]
theorem at_md {b : Nat} {B : zB} {F : Nat → zFn} {D : zMd} (i : Nat) (h : i < 32) : zs b (B, F, D) (b + (71 + i)) = some (zc_md b D i) := by
  rw [zs_at]
  unfold zc
  rw [if_neg (by omega), if_neg (by omega), if_pos (by omega), Nat.add_sub_cancel_left]
theorem at_fn {b : Nat} {B : zB} {F : Nat → zFn} {D : zMd} {f : Nat} (i : Nat) (hf : f < 5) (h : i < 13) : zs b (B, F, D) (fa b f i) = some (zc_fn b f (F f) i) := by
  unfold fa
  rw [zs_at]
  unfold zc
  rw [if_neg (by omega), if_pos (by omega), show (6 + 13 * f + i - 6) / 13 = f by omega, show (6 + 13 * f + i - 6) % 13 = i by omega]
theorem zs_up {b c : Nat} {S S' : zS} {e : va_E} (h1 : zc b S' c = some e) (h2 : ∀ d, d ≠ c → zc b S' d = zc b S d) : zx_up (zs b S) (b + c) e = zs b S' := by
  funext q
  unfold zx_up
  by_cases hq : q = b + c
  · subst hq
    rw [if_pos rfl, zs_at, h1]
  · rw [if_neg hq]
    unfold zs
    by_cases hb : q < b
    · rw [if_pos hb, if_pos hb]
    · rw [if_neg hb, if_neg hb, h2 (q - b) (by omega)]
theorem up_bus {b : Nat} {B B' : zB} {F : Nat → zFn} {D : zMd} {e : va_E} (c : Nat) (h : c < 6) (h1 : zc_bus b B' c = e) (h2 : ∀ d, d < 6 → d ≠ c → zc_bus b B' d = zc_bus b B d) : zx_up (zs b (B, F, D)) (b + c) e = zs b (B', F, D) := by
  refine zs_up ?_ (fun d hd => ?_)
  · unfold zc
    rw [if_pos h, h1]
  · unfold zc
    by_cases g : d < 6
    · rw [if_pos g, if_pos g, h2 d g hd]
    · rw [if_neg g, if_neg g]
theorem up_md {b : Nat} {B : zB} {F : Nat → zFn} {D D' : zMd} {e : va_E} (i : Nat) (h : i < 32) (h1 : zc_md b D' i = e) (h2 : ∀ d, d < 32 → d ≠ i → zc_md b D' d = zc_md b D d) : zx_up (zs b (B, F, D)) (b + (71 + i)) e = zs b (B, F, D') := by
  refine zs_up ?_ (fun d hd => ?_)
  · unfold zc
    rw [if_neg (by omega), if_neg (by omega), if_pos (by omega), Nat.add_sub_cancel_left, h1]
  · unfold zc
    by_cases g : d < 6
    · rw [if_pos g, if_pos g]
    · rw [if_neg g, if_neg g]
      by_cases g2 : d < 71
      · rw [if_pos g2, if_pos g2]
      · rw [if_neg g2, if_neg g2]
        by_cases g3 : d < 103
        · rw [if_pos g3, if_pos g3, h2 (d - 71) (by omega) (by omega)]
        · rw [if_neg g3, if_neg g3]
theorem up_fn {b : Nat} {B : zB} {F : Nat → zFn} {D : zMd} {f : Nat} {G G' : zFn} {e : va_E} (i : Nat) (hf : f < 5) (h : i < 13) (h1 : zc_fn b f G' i = e) (h2 : ∀ d, d < 13 → d ≠ i → zc_fn b f G' d = zc_fn b f G d) : zx_up (zs b (B, foc F f G, D)) (fa b f i) e = zs b (B, foc F f G', D) := by
  unfold fa
  refine zs_up ?_ (fun d hd => ?_)
  · unfold zc
    rw [if_neg (by omega), if_pos (by omega), show (6 + 13 * f + i - 6) / 13 = f by omega, show (6 + 13 * f + i - 6) % 13 = i by omega]
    show some (zc_fn b f (foc F f G' f) i) = _
    rw [foc_at, h1]
  · unfold zc
    by_cases g : d < 6
    · rw [if_pos g, if_pos g]
    · rw [if_neg g, if_neg g]
      by_cases g2 : d < 71
      · rw [if_pos g2, if_pos g2]
        show some (zc_fn b ((d - 6) / 13) (foc F f G' ((d - 6) / 13)) ((d - 6) % 13)) = some (zc_fn b ((d - 6) / 13) (foc F f G ((d - 6) / 13)) ((d - 6) % 13))
        by_cases g3 : (d - 6) / 13 = f
        · rw [g3, foc_at, foc_at, h2 ((d - 6) % 13) (by omega) (by omega)]
        · rw [foc_ne _ _ g3, foc_ne _ _ g3]
      · rw [if_neg g2, if_neg g2]
section ZSR
variable {b f : Nat} {F : Nat → zFn} {D : zMd} {B : zB} {ids snd nt : Nat → Int32} {con : Nat → Int64} {cnt o : Nat} {ovf ad de st : Int32} {now nm hd : Int64} {bz : Bool} {la : zMs} {ou : zOu} {xs : Nat → zIn}
theorem at_ab : zs b (B, F, D) b = some (.inr (6, [.ref (b + 1), .ref (b + 5)])) := at_bus 0 (by decide)
theorem at_b1 : zs b ((ids, con, snd, cnt, ovf, now), F, D) (b + 1) = some (.inr (0, [.ref (b + 2), .ref (b + 3), .ref (b + 4), .int (nI cnt), .int ovf, .long now])) := at_bus 1 (by decide)
theorem at_b2 : zs b ((ids, con, snd, cnt, ovf, now), F, D) (b + 2) = some (.inl (0, 48, .inl ids)) := at_bus 2 (by decide)
theorem at_b3 : zs b ((ids, con, snd, cnt, ovf, now), F, D) (b + 3) = some (.inl (1, 48, .inr (.inl con))) := at_bus 3 (by decide)
theorem at_b4 : zs b ((ids, con, snd, cnt, ovf, now), F, D) (b + 4) = some (.inl (0, 48, .inl snd)) := at_bus 4 (by decide)
theorem at_b5 : zs b (B, F, D) (b + 5) = some (.inl (3, 5, .inr (.inr (.inr (.inr (zc_fns b)))))) := at_bus 5 (by decide)
theorem at_f0 (hf : f < 5) : zs b (B, foc F f (ad, bz, nt, o, la, ou, xs, de, st, nm, hd), D) (fa b f 0) = some (.inr (1, [.ref (b + 1), .ref (fa b f 1), .ref (fa b f 2), .ref (fa b f 6), .ref (fa b f 3), .ref (fa b f 4), .int de, .int st, .long nm, .long hd])) := by rw [at_fn 0 hf (by decide), foc_at]; rfl
theorem at_f1 (hf : f < 5) : zs b (B, foc F f (ad, bz, nt, o, la, ou, xs, de, st, nm, hd), D) (fa b f 1) = some (.inr (5, [.int (nI f), .int ad, .int (zb bz)])) := by rw [at_fn 1 hf (by decide), foc_at]; rfl
theorem at_f2 (hf : f < 5) : zs b (B, foc F f (ad, bz, nt, o, la, ou, xs, de, st, nm, hd), D) (fa b f 2) = some (.inl (0, 5, .inl nt)) := by rw [at_fn 2 hf (by decide), foc_at]; rfl
theorem at_f3 (hf : f < 5) : zs b (B, foc F f (ad, bz, nt, o, la, ou, xs, de, st, nm, hd), D) (fa b f 3) = some (.inl (4, 2, .inr (.inr (.inr (.inr (zc_ord b f o)))))) := by rw [at_fn 3 hf (by decide), foc_at]; rfl
theorem at_f4 {pk : Nat → Int64} {so gr si : Int32} {ta : Bool} (hf : f < 5) : zs b (B, foc F f (ad, bz, nt, o, (pk, so, gr, si, ta), ou, xs, de, st, nm, hd), D) (fa b f 4) = some (.inr (3, [.ref (fa b f 5), .int so, .int gr, .int si, .int (zb ta)])) := by rw [at_fn 4 hf (by decide), foc_at]; rfl
theorem at_f5 {pk : Nat → Int64} {so gr si : Int32} {ta : Bool} (hf : f < 5) : zs b (B, foc F f (ad, bz, nt, o, (pk, so, gr, si, ta), ou, xs, de, st, nm, hd), D) (fa b f 5) = some (.inl (1, 7, .inr (.inl pk))) := by rw [at_fn 5 hf (by decide), foc_at]; rfl
theorem at_f6 {ph re tg gp sz nx : Int32} {se du : Int64} (hf : f < 5) : zs b (B, foc F f (ad, bz, nt, o, la, (ph, re, tg, gp, sz, se, nx, du), xs, de, st, nm, hd), D) (fa b f 6) = some (.inr (4, [.ref (b + 1), .ref (fa b f 1), .int ph, .int re, .int tg, .int gp, .int sz, .long se, .int nx, .long du])) := by rw [at_fn 6 hf (by decide), foc_at]; rfl
theorem at_i7 {p : Nat} {pk : Nat → Int64} {so gr si lt ak : Int32} {ta op he : Bool} {ex : Nat} {du : Int64} (hf : f < 5) (hp : p < 2) : zs b (B, foc F f (ad, bz, nt, o, la, ou, foc xs p ((pk, so, gr, si, ta), op, he, ex, lt, ak, du), de, st, nm, hd), D) (fa b f (7 + 3 * p)) = some (.inr (2, [.ref (b + 1), .ref (fa b f 1), .ref (fa b f (8 + 3 * p)), .int (zb op), .int (zb he), .int (nI ex), .int lt, .int ak, .long du])) := by
  rw [at_fn (7 + 3 * p) hf (by omega), foc_at]
  match p, hp with
  | 0, _ => simp only [zc_fn, zc_in, zc_ms, zc_pk, foc_at, Nat.mul_zero, Nat.add_zero]
  | 1, _ => simp only [zc_fn, zc_in, zc_ms, zc_pk, foc_at, Nat.mul_one]
theorem at_i8 {p : Nat} {pk : Nat → Int64} {so gr si lt ak : Int32} {ta op he : Bool} {ex : Nat} {du : Int64} (hf : f < 5) (hp : p < 2) : zs b (B, foc F f (ad, bz, nt, o, la, ou, foc xs p ((pk, so, gr, si, ta), op, he, ex, lt, ak, du), de, st, nm, hd), D) (fa b f (8 + 3 * p)) = some (.inr (3, [.ref (fa b f (9 + 3 * p)), .int so, .int gr, .int si, .int (zb ta)])) := by
  rw [at_fn (8 + 3 * p) hf (by omega), foc_at]
  match p, hp with
  | 0, _ => simp only [zc_fn, zc_in, zc_ms, zc_pk, foc_at, Nat.mul_zero, Nat.add_zero]
  | 1, _ => simp only [zc_fn, zc_in, zc_ms, zc_pk, foc_at, Nat.mul_one]
theorem at_i9 {p : Nat} {pk : Nat → Int64} {so gr si lt ak : Int32} {ta op he : Bool} {ex : Nat} {du : Int64} (hf : f < 5) (hp : p < 2) : zs b (B, foc F f (ad, bz, nt, o, la, ou, foc xs p ((pk, so, gr, si, ta), op, he, ex, lt, ak, du), de, st, nm, hd), D) (fa b f (9 + 3 * p)) = some (.inl (1, 7, .inr (.inl pk))) := by
  rw [at_fn (9 + 3 * p) hf (by omega), foc_at]
  match p, hp with
  | 0, _ => simp only [zc_fn, zc_in, zc_ms, zc_pk, foc_at, Nat.mul_zero, Nat.add_zero]
  | 1, _ => simp only [zc_fn, zc_in, zc_ms, zc_pk, foc_at, Nat.mul_one]
variable {t lo : Int32} {fr : Nat} {I : Nat → Nat → Int32} {J : Nat → Nat → Int64}
theorem at_m : zs b (B, F, (t, fr, lo, I, J)) (b + 71) = some (.inr (7, [.int t, .ref (ma b 0), .ref (ma b 1), .ref (ma b 2), .ref (ma b 3), .ref (ma b 4), .ref (ma b 5), .int (nI fr), .ref (ma b 6), .ref (ma b 7), .ref (ma b 8), .int lo, .ref (ma b 9), .ref (ma b 10), .ref (ma b 11), .ref (ma b 12), .ref (ma b 13), .ref (ma b 14), .ref (ma b 15), .ref (ma b 16), .ref (ma b 17), .ref (ma b 18), .ref (ma b 19), .ref (ma b 20), .ref (ma b 21), .ref (ma b 22), .ref (ma b 23), .ref (ma b 24), .ref (ma b 25), .ref (ma b 26), .ref (ma b 27), .ref (ma b 28), .ref (ma b 29), .ref (ma b 30)])) := at_md 0 (by decide)
theorem at_m0 : zs b (B, F, (t, fr, lo, I, J)) (ma b 0) = some (.inl (0, 5, .inl (I 0))) := at_md 1 (by decide)
theorem at_m1 : zs b (B, F, (t, fr, lo, I, J)) (ma b 1) = some (.inl (0, 5, .inl (I 1))) := at_md 2 (by decide)
theorem at_m2 : zs b (B, F, (t, fr, lo, I, J)) (ma b 2) = some (.inl (1, 5, .inr (.inl (J 2)))) := at_md 3 (by decide)
theorem at_m3 : zs b (B, F, (t, fr, lo, I, J)) (ma b 3) = some (.inl (2, 5, .inl (I 3))) := at_md 4 (by decide)
theorem at_m4 : zs b (B, F, (t, fr, lo, I, J)) (ma b 4) = some (.inl (0, 5, .inl (I 4))) := at_md 5 (by decide)
theorem at_m5 : zs b (B, F, (t, fr, lo, I, J)) (ma b 5) = some (.inl (0, 25, .inl (I 5))) := at_md 6 (by decide)
theorem at_m6 : zs b (B, F, (t, fr, lo, I, J)) (ma b 6) = some (.inl (0, 48, .inl (I 6))) := at_md 7 (by decide)
theorem at_m7 : zs b (B, F, (t, fr, lo, I, J)) (ma b 7) = some (.inl (1, 48, .inr (.inl (J 7)))) := at_md 8 (by decide)
theorem at_m8 : zs b (B, F, (t, fr, lo, I, J)) (ma b 8) = some (.inl (0, 48, .inl (I 8))) := at_md 9 (by decide)
theorem at_m9 : zs b (B, F, (t, fr, lo, I, J)) (ma b 9) = some (.inl (0, 5, .inl (I 9))) := at_md 10 (by decide)
theorem at_m10 : zs b (B, F, (t, fr, lo, I, J)) (ma b 10) = some (.inl (0, 5, .inl (I 10))) := at_md 11 (by decide)
theorem at_m11 : zs b (B, F, (t, fr, lo, I, J)) (ma b 11) = some (.inl (0, 5, .inl (I 11))) := at_md 12 (by decide)
theorem at_m12 : zs b (B, F, (t, fr, lo, I, J)) (ma b 12) = some (.inl (0, 5, .inl (I 12))) := at_md 13 (by decide)
theorem at_m13 : zs b (B, F, (t, fr, lo, I, J)) (ma b 13) = some (.inl (0, 5, .inl (I 13))) := at_md 14 (by decide)
theorem at_m14 : zs b (B, F, (t, fr, lo, I, J)) (ma b 14) = some (.inl (1, 5, .inr (.inl (J 14)))) := at_md 15 (by decide)
theorem at_m15 : zs b (B, F, (t, fr, lo, I, J)) (ma b 15) = some (.inl (0, 5, .inl (I 15))) := at_md 16 (by decide)
theorem at_m16 : zs b (B, F, (t, fr, lo, I, J)) (ma b 16) = some (.inl (0, 5, .inl (I 16))) := at_md 17 (by decide)
theorem at_m17 : zs b (B, F, (t, fr, lo, I, J)) (ma b 17) = some (.inl (0, 5, .inl (I 17))) := at_md 18 (by decide)
theorem at_m18 : zs b (B, F, (t, fr, lo, I, J)) (ma b 18) = some (.inl (2, 10, .inl (I 18))) := at_md 19 (by decide)
theorem at_m19 : zs b (B, F, (t, fr, lo, I, J)) (ma b 19) = some (.inl (0, 10, .inl (I 19))) := at_md 20 (by decide)
theorem at_m20 : zs b (B, F, (t, fr, lo, I, J)) (ma b 20) = some (.inl (0, 10, .inl (I 20))) := at_md 21 (by decide)
theorem at_m21 : zs b (B, F, (t, fr, lo, I, J)) (ma b 21) = some (.inl (0, 10, .inl (I 21))) := at_md 22 (by decide)
theorem at_m22 : zs b (B, F, (t, fr, lo, I, J)) (ma b 22) = some (.inl (0, 10, .inl (I 22))) := at_md 23 (by decide)
theorem at_m23 : zs b (B, F, (t, fr, lo, I, J)) (ma b 23) = some (.inl (0, 10, .inl (I 23))) := at_md 24 (by decide)
theorem at_m24 : zs b (B, F, (t, fr, lo, I, J)) (ma b 24) = some (.inl (0, 10, .inl (I 24))) := at_md 25 (by decide)
theorem at_m25 : zs b (B, F, (t, fr, lo, I, J)) (ma b 25) = some (.inl (2, 10, .inl (I 25))) := at_md 26 (by decide)
theorem at_m26 : zs b (B, F, (t, fr, lo, I, J)) (ma b 26) = some (.inl (0, 10, .inl (I 26))) := at_md 27 (by decide)
theorem at_m27 : zs b (B, F, (t, fr, lo, I, J)) (ma b 27) = some (.inl (0, 490, .inl (I 27))) := at_md 28 (by decide)
theorem at_m28 : zs b (B, F, (t, fr, lo, I, J)) (ma b 28) = some (.inl (0, 5, .inl (I 28))) := at_md 29 (by decide)
theorem at_m29 : zs b (B, F, (t, fr, lo, I, J)) (ma b 29) = some (.inl (0, 20, .inl (I 29))) := at_md 30 (by decide)
theorem at_m30 : zs b (B, F, (t, fr, lo, I, J)) (ma b 30) = some (.inl (0, 245, .inl (I 30))) := at_md 31 (by decide)
variable {ids' snd' nt' : Nat → Int32} {con' : Nat → Int64} {cnt' o' : Nat} {ovf' ad' de' st' : Int32} {now' nm' hd' : Int64} {bz' : Bool}
theorem up_b1 : zx_up (zs b ((ids, con, snd, cnt, ovf, now), F, D)) (b + 1) (.inr (0, [.ref (b + 2), .ref (b + 3), .ref (b + 4), .int (nI cnt'), .int ovf', .long now'])) = zs b ((ids, con, snd, cnt', ovf', now'), F, D) := up_bus 1 (by decide) rfl (fun d h g => match d, h, g with | 0, _, _ => rfl | 1, _, h => absurd rfl h | 2, _, _ => rfl | 3, _, _ => rfl | 4, _, _ => rfl | 5, _, _ => rfl)
theorem up_b2 : zx_up (zs b ((ids, con, snd, cnt, ovf, now), F, D)) (b + 2) (.inl (0, 48, .inl ids')) = zs b ((ids', con, snd, cnt, ovf, now), F, D) := up_bus 2 (by decide) rfl (fun d h g => match d, h, g with | 0, _, _ => rfl | 1, _, _ => rfl | 2, _, h => absurd rfl h | 3, _, _ => rfl | 4, _, _ => rfl | 5, _, _ => rfl)
theorem up_b3 : zx_up (zs b ((ids, con, snd, cnt, ovf, now), F, D)) (b + 3) (.inl (1, 48, .inr (.inl con'))) = zs b ((ids, con', snd, cnt, ovf, now), F, D) := up_bus 3 (by decide) rfl (fun d h g => match d, h, g with | 0, _, _ => rfl | 1, _, _ => rfl | 2, _, _ => rfl | 3, _, h => absurd rfl h | 4, _, _ => rfl | 5, _, _ => rfl)
theorem up_b4 : zx_up (zs b ((ids, con, snd, cnt, ovf, now), F, D)) (b + 4) (.inl (0, 48, .inl snd')) = zs b ((ids, con, snd', cnt, ovf, now), F, D) := up_bus 4 (by decide) rfl (fun d h g => match d, h, g with | 0, _, _ => rfl | 1, _, _ => rfl | 2, _, _ => rfl | 3, _, _ => rfl | 4, _, h => absurd rfl h | 5, _, _ => rfl)
theorem up_f0 (hf : f < 5) : zx_up (zs b (B, foc F f (ad, bz, nt, o, la, ou, xs, de, st, nm, hd), D)) (fa b f 0) (.inr (1, [.ref (b + 1), .ref (fa b f 1), .ref (fa b f 2), .ref (fa b f 6), .ref (fa b f 3), .ref (fa b f 4), .int de', .int st', .long nm', .long hd'])) = zs b (B, foc F f (ad, bz, nt, o, la, ou, xs, de', st', nm', hd'), D) := up_fn 0 hf (by decide) rfl (fun d h g => match d, h, g with | 0, _, h => absurd rfl h | 1, _, _ => rfl | 2, _, _ => rfl | 3, _, _ => rfl | 4, _, _ => rfl | 5, _, _ => rfl | 6, _, _ => rfl | 7, _, _ => rfl | 8, _, _ => rfl | 9, _, _ => rfl | 10, _, _ => rfl | 11, _, _ => rfl | 12, _, _ => rfl)
theorem up_f1 (hf : f < 5) : zx_up (zs b (B, foc F f (ad, bz, nt, o, la, ou, xs, de, st, nm, hd), D)) (fa b f 1) (.inr (5, [.int (nI f), .int ad', .int (zb bz')])) = zs b (B, foc F f (ad', bz', nt, o, la, ou, xs, de, st, nm, hd), D) := up_fn 1 hf (by decide) rfl (fun d h g => match d, h, g with | 0, _, _ => rfl | 1, _, h => absurd rfl h | 2, _, _ => rfl | 3, _, _ => rfl | 4, _, _ => rfl | 5, _, _ => rfl | 6, _, _ => rfl | 7, _, _ => rfl | 8, _, _ => rfl | 9, _, _ => rfl | 10, _, _ => rfl | 11, _, _ => rfl | 12, _, _ => rfl)
theorem up_f2 (hf : f < 5) : zx_up (zs b (B, foc F f (ad, bz, nt, o, la, ou, xs, de, st, nm, hd), D)) (fa b f 2) (.inl (0, 5, .inl nt')) = zs b (B, foc F f (ad, bz, nt', o, la, ou, xs, de, st, nm, hd), D) := up_fn 2 hf (by decide) rfl (fun d h g => match d, h, g with | 0, _, _ => rfl | 1, _, _ => rfl | 2, _, h => absurd rfl h | 3, _, _ => rfl | 4, _, _ => rfl | 5, _, _ => rfl | 6, _, _ => rfl | 7, _, _ => rfl | 8, _, _ => rfl | 9, _, _ => rfl | 10, _, _ => rfl | 11, _, _ => rfl | 12, _, _ => rfl)
theorem up_f4 {pk : Nat → Int64} {so gr si so' gr' si' : Int32} {ta ta' : Bool} (hf : f < 5) : zx_up (zs b (B, foc F f (ad, bz, nt, o, (pk, so, gr, si, ta), ou, xs, de, st, nm, hd), D)) (fa b f 4) (.inr (3, [.ref (fa b f 5), .int so', .int gr', .int si', .int (zb ta')])) = zs b (B, foc F f (ad, bz, nt, o, (pk, so', gr', si', ta'), ou, xs, de, st, nm, hd), D) := up_fn 4 hf (by decide) rfl (fun d h g => match d, h, g with | 0, _, _ => rfl | 1, _, _ => rfl | 2, _, _ => rfl | 3, _, _ => rfl | 4, _, h => absurd rfl h | 5, _, _ => rfl | 6, _, _ => rfl | 7, _, _ => rfl | 8, _, _ => rfl | 9, _, _ => rfl | 10, _, _ => rfl | 11, _, _ => rfl | 12, _, _ => rfl)
theorem up_f5 {pk pk' : Nat → Int64} {so gr si : Int32} {ta : Bool} (hf : f < 5) : zx_up (zs b (B, foc F f (ad, bz, nt, o, (pk, so, gr, si, ta), ou, xs, de, st, nm, hd), D)) (fa b f 5) (.inl (1, 7, .inr (.inl pk'))) = zs b (B, foc F f (ad, bz, nt, o, (pk', so, gr, si, ta), ou, xs, de, st, nm, hd), D) := up_fn 5 hf (by decide) rfl (fun d h g => match d, h, g with | 0, _, _ => rfl | 1, _, _ => rfl | 2, _, _ => rfl | 3, _, _ => rfl | 4, _, _ => rfl | 5, _, h => absurd rfl h | 6, _, _ => rfl | 7, _, _ => rfl | 8, _, _ => rfl | 9, _, _ => rfl | 10, _, _ => rfl | 11, _, _ => rfl | 12, _, _ => rfl)
theorem up_f6 {ph re tg gp sz nx ph' re' tg' gp' sz' nx' : Int32} {se du se' du' : Int64} (hf : f < 5) : zx_up (zs b (B, foc F f (ad, bz, nt, o, la, (ph, re, tg, gp, sz, se, nx, du), xs, de, st, nm, hd), D)) (fa b f 6) (.inr (4, [.ref (b + 1), .ref (fa b f 1), .int ph', .int re', .int tg', .int gp', .int sz', .long se', .int nx', .long du'])) = zs b (B, foc F f (ad, bz, nt, o, la, (ph', re', tg', gp', sz', se', nx', du'), xs, de, st, nm, hd), D) := up_fn 6 hf (by decide) rfl (fun d h g => match d, h, g with | 0, _, _ => rfl | 1, _, _ => rfl | 2, _, _ => rfl | 3, _, _ => rfl | 4, _, _ => rfl | 5, _, _ => rfl | 6, _, h => absurd rfl h | 7, _, _ => rfl | 8, _, _ => rfl | 9, _, _ => rfl | 10, _, _ => rfl | 11, _, _ => rfl | 12, _, _ => rfl)
theorem up_i7 {p : Nat} {pk : Nat → Int64} {so gr si lt ak : Int32} {ta op he : Bool} {ex : Nat} {du : Int64} {lt' ak' : Int32} {op' he' : Bool} {ex' : Nat} {du' : Int64} (hf : f < 5) (hp : p < 2) : zx_up (zs b (B, foc F f (ad, bz, nt, o, la, ou, foc xs p ((pk, so, gr, si, ta), op, he, ex, lt, ak, du), de, st, nm, hd), D)) (fa b f (7 + 3 * p)) (.inr (2, [.ref (b + 1), .ref (fa b f 1), .ref (fa b f (8 + 3 * p)), .int (zb op'), .int (zb he'), .int (nI ex'), .int lt', .int ak', .long du'])) = zs b (B, foc F f (ad, bz, nt, o, la, ou, foc xs p ((pk, so, gr, si, ta), op', he', ex', lt', ak', du'), de, st, nm, hd), D) := by
  match p, hp with
  | 0, _ =>
    refine up_fn 7 hf (by decide) ?_ (fun d h g => ?_)
    · simp only [zc_fn, zc_in, zc_ms, zc_pk, foc_at] <;> rfl
    · match d, h, g with
      | 0, _, _ => rfl
      | 1, _, _ => rfl
      | 2, _, _ => rfl
      | 3, _, _ => rfl
      | 4, _, _ => rfl
      | 5, _, _ => rfl
      | 6, _, _ => rfl
      | 7, _, g => exact absurd rfl g
      | 8, _, _ => simp only [zc_fn, zc_in, zc_ms, zc_pk, foc_at]
      | 9, _, _ => simp only [zc_fn, zc_in, zc_ms, zc_pk, foc_at]
      | 10, _, _ => simp only [zc_fn, zc_in, zc_ms, zc_pk, foc_ne xs _ (show 1 ≠ 0 by decide)]
      | 11, _, _ => simp only [zc_fn, zc_in, zc_ms, zc_pk, foc_ne xs _ (show 1 ≠ 0 by decide)]
      | 12, _, _ => simp only [zc_fn, zc_in, zc_ms, zc_pk, foc_ne xs _ (show 1 ≠ 0 by decide)]
  | 1, _ =>
    refine up_fn 10 hf (by decide) ?_ (fun d h g => ?_)
    · simp only [zc_fn, zc_in, zc_ms, zc_pk, foc_at] <;> rfl
    · match d, h, g with
      | 0, _, _ => rfl
      | 1, _, _ => rfl
      | 2, _, _ => rfl
      | 3, _, _ => rfl
      | 4, _, _ => rfl
      | 5, _, _ => rfl
      | 6, _, _ => rfl
      | 7, _, _ => simp only [zc_fn, zc_in, zc_ms, zc_pk, foc_ne xs _ (show 0 ≠ 1 by decide)]
      | 8, _, _ => simp only [zc_fn, zc_in, zc_ms, zc_pk, foc_ne xs _ (show 0 ≠ 1 by decide)]
      | 9, _, _ => simp only [zc_fn, zc_in, zc_ms, zc_pk, foc_ne xs _ (show 0 ≠ 1 by decide)]
      | 10, _, g => exact absurd rfl g
      | 11, _, _ => simp only [zc_fn, zc_in, zc_ms, zc_pk, foc_at]
      | 12, _, _ => simp only [zc_fn, zc_in, zc_ms, zc_pk, foc_at]
theorem up_i8 {p : Nat} {pk : Nat → Int64} {so gr si lt ak : Int32} {ta op he : Bool} {ex : Nat} {du : Int64} {so' gr' si' : Int32} {ta' : Bool} (hf : f < 5) (hp : p < 2) : zx_up (zs b (B, foc F f (ad, bz, nt, o, la, ou, foc xs p ((pk, so, gr, si, ta), op, he, ex, lt, ak, du), de, st, nm, hd), D)) (fa b f (8 + 3 * p)) (.inr (3, [.ref (fa b f (9 + 3 * p)), .int so', .int gr', .int si', .int (zb ta')])) = zs b (B, foc F f (ad, bz, nt, o, la, ou, foc xs p ((pk, so', gr', si', ta'), op, he, ex, lt, ak, du), de, st, nm, hd), D) := by
  match p, hp with
  | 0, _ =>
    refine up_fn 8 hf (by decide) ?_ (fun d h g => ?_)
    · simp only [zc_fn, zc_in, zc_ms, zc_pk, foc_at] <;> rfl
    · match d, h, g with
      | 0, _, _ => rfl
      | 1, _, _ => rfl
      | 2, _, _ => rfl
      | 3, _, _ => rfl
      | 4, _, _ => rfl
      | 5, _, _ => rfl
      | 6, _, _ => rfl
      | 7, _, _ => simp only [zc_fn, zc_in, zc_ms, zc_pk, foc_at]
      | 8, _, g => exact absurd rfl g
      | 9, _, _ => simp only [zc_fn, zc_in, zc_ms, zc_pk, foc_at]
      | 10, _, _ => simp only [zc_fn, zc_in, zc_ms, zc_pk, foc_ne xs _ (show 1 ≠ 0 by decide)]
      | 11, _, _ => simp only [zc_fn, zc_in, zc_ms, zc_pk, foc_ne xs _ (show 1 ≠ 0 by decide)]
      | 12, _, _ => simp only [zc_fn, zc_in, zc_ms, zc_pk, foc_ne xs _ (show 1 ≠ 0 by decide)]
  | 1, _ =>
    refine up_fn 11 hf (by decide) ?_ (fun d h g => ?_)
    · simp only [zc_fn, zc_in, zc_ms, zc_pk, foc_at] <;> rfl
    · match d, h, g with
      | 0, _, _ => rfl
      | 1, _, _ => rfl
      | 2, _, _ => rfl
      | 3, _, _ => rfl
      | 4, _, _ => rfl
      | 5, _, _ => rfl
      | 6, _, _ => rfl
      | 7, _, _ => simp only [zc_fn, zc_in, zc_ms, zc_pk, foc_ne xs _ (show 0 ≠ 1 by decide)]
      | 8, _, _ => simp only [zc_fn, zc_in, zc_ms, zc_pk, foc_ne xs _ (show 0 ≠ 1 by decide)]
      | 9, _, _ => simp only [zc_fn, zc_in, zc_ms, zc_pk, foc_ne xs _ (show 0 ≠ 1 by decide)]
      | 10, _, _ => simp only [zc_fn, zc_in, zc_ms, zc_pk, foc_at]
      | 11, _, g => exact absurd rfl g
      | 12, _, _ => simp only [zc_fn, zc_in, zc_ms, zc_pk, foc_at]
theorem up_i9 {p : Nat} {pk : Nat → Int64} {so gr si lt ak : Int32} {ta op he : Bool} {ex : Nat} {du : Int64} {pk' : Nat → Int64} (hf : f < 5) (hp : p < 2) : zx_up (zs b (B, foc F f (ad, bz, nt, o, la, ou, foc xs p ((pk, so, gr, si, ta), op, he, ex, lt, ak, du), de, st, nm, hd), D)) (fa b f (9 + 3 * p)) (.inl (1, 7, .inr (.inl pk'))) = zs b (B, foc F f (ad, bz, nt, o, la, ou, foc xs p ((pk', so, gr, si, ta), op, he, ex, lt, ak, du), de, st, nm, hd), D) := by
  match p, hp with
  | 0, _ =>
    refine up_fn 9 hf (by decide) ?_ (fun d h g => ?_)
    · simp only [zc_fn, zc_in, zc_ms, zc_pk, foc_at] <;> rfl
    · match d, h, g with
      | 0, _, _ => rfl
      | 1, _, _ => rfl
      | 2, _, _ => rfl
      | 3, _, _ => rfl
      | 4, _, _ => rfl
      | 5, _, _ => rfl
      | 6, _, _ => rfl
      | 7, _, _ => simp only [zc_fn, zc_in, zc_ms, zc_pk, foc_at]
      | 8, _, _ => simp only [zc_fn, zc_in, zc_ms, zc_pk, foc_at]
      | 9, _, g => exact absurd rfl g
      | 10, _, _ => simp only [zc_fn, zc_in, zc_ms, zc_pk, foc_ne xs _ (show 1 ≠ 0 by decide)]
      | 11, _, _ => simp only [zc_fn, zc_in, zc_ms, zc_pk, foc_ne xs _ (show 1 ≠ 0 by decide)]
      | 12, _, _ => simp only [zc_fn, zc_in, zc_ms, zc_pk, foc_ne xs _ (show 1 ≠ 0 by decide)]
  | 1, _ =>
    refine up_fn 12 hf (by decide) ?_ (fun d h g => ?_)
    · simp only [zc_fn, zc_in, zc_ms, zc_pk, foc_at] <;> rfl
    · match d, h, g with
      | 0, _, _ => rfl
      | 1, _, _ => rfl
      | 2, _, _ => rfl
      | 3, _, _ => rfl
      | 4, _, _ => rfl
      | 5, _, _ => rfl
      | 6, _, _ => rfl
      | 7, _, _ => simp only [zc_fn, zc_in, zc_ms, zc_pk, foc_ne xs _ (show 0 ≠ 1 by decide)]
      | 8, _, _ => simp only [zc_fn, zc_in, zc_ms, zc_pk, foc_ne xs _ (show 0 ≠ 1 by decide)]
      | 9, _, _ => simp only [zc_fn, zc_in, zc_ms, zc_pk, foc_ne xs _ (show 0 ≠ 1 by decide)]
      | 10, _, _ => simp only [zc_fn, zc_in, zc_ms, zc_pk, foc_at]
      | 11, _, _ => simp only [zc_fn, zc_in, zc_ms, zc_pk, foc_at]
      | 12, _, g => exact absurd rfl g
def up2 {α : Type} (I : Nat → Nat → α) (k i : Nat) (v : α) : Nat → Nat → α := fun a j => if a = k then (if j = i then v else I a j) else I a j
theorem up2_at {α : Type} (I : Nat → Nat → α) (k i : Nat) (v : α) : up2 I k i v k = fun j => if j = i then v else I k j := by
  funext j
  unfold up2
  rw [if_pos rfl]
theorem up2_ne {α : Type} (I : Nat → Nat → α) {k a : Nat} (i : Nat) (v : α) (h : a ≠ k) : up2 I k i v a = I a := by
  funext j
  unfold up2
  rw [if_neg h]
variable {t' lo' : Int32} {fr' : Nat}
theorem up_m : zx_up (zs b (B, F, (t, fr, lo, I, J))) (b + 71) (.inr (7, [.int t', .ref (ma b 0), .ref (ma b 1), .ref (ma b 2), .ref (ma b 3), .ref (ma b 4), .ref (ma b 5), .int (nI fr'), .ref (ma b 6), .ref (ma b 7), .ref (ma b 8), .int lo', .ref (ma b 9), .ref (ma b 10), .ref (ma b 11), .ref (ma b 12), .ref (ma b 13), .ref (ma b 14), .ref (ma b 15), .ref (ma b 16), .ref (ma b 17), .ref (ma b 18), .ref (ma b 19), .ref (ma b 20), .ref (ma b 21), .ref (ma b 22), .ref (ma b 23), .ref (ma b 24), .ref (ma b 25), .ref (ma b 26), .ref (ma b 27), .ref (ma b 28), .ref (ma b 29), .ref (ma b 30)])) = zs b (B, F, (t', fr', lo', I, J)) := up_md 0 (by decide) rfl (fun d h g => match d, h, g with | 0, _, h => absurd rfl h | 1, _, _ => rfl | 2, _, _ => rfl | 3, _, _ => rfl | 4, _, _ => rfl | 5, _, _ => rfl | 6, _, _ => rfl | 7, _, _ => rfl | 8, _, _ => rfl | 9, _, _ => rfl | 10, _, _ => rfl | 11, _, _ => rfl | 12, _, _ => rfl | 13, _, _ => rfl | 14, _, _ => rfl | 15, _, _ => rfl | 16, _, _ => rfl | 17, _, _ => rfl | 18, _, _ => rfl | 19, _, _ => rfl | 20, _, _ => rfl | 21, _, _ => rfl | 22, _, _ => rfl | 23, _, _ => rfl | 24, _, _ => rfl | 25, _, _ => rfl | 26, _, _ => rfl | 27, _, _ => rfl | 28, _, _ => rfl | 29, _, _ => rfl | 30, _, _ => rfl | 31, _, _ => rfl | j + 32, h, _ => absurd h (by omega))
theorem up_m0 {i : Nat} {v : Int32} : zx_up (zs b (B, F, (t, fr, lo, I, J))) (ma b 0) (.inl (0, 5, .inl (upd (I 0) i v))) = zs b (B, F, (t, fr, lo, up2 I 0 i v, J)) := by
  refine up_md 1 (by decide) ?_ (fun d h g => ?_)
  · simp only [zc_md, up2_at]; rfl
  · match d, h, g with
    | 0, _, _ => rfl
    | 1, _, g => exact absurd rfl g
    | 2, _, _ => simp only [zc_md, up2_ne _ _ _ (show 1 ≠ 0 by decide)]
    | 3, _, _ => rfl
    | 4, _, _ => simp only [zc_md, up2_ne _ _ _ (show 3 ≠ 0 by decide)]
    | 5, _, _ => simp only [zc_md, up2_ne _ _ _ (show 4 ≠ 0 by decide)]
    | 6, _, _ => simp only [zc_md, up2_ne _ _ _ (show 5 ≠ 0 by decide)]
    | 7, _, _ => simp only [zc_md, up2_ne _ _ _ (show 6 ≠ 0 by decide)]
    | 8, _, _ => rfl
    | 9, _, _ => simp only [zc_md, up2_ne _ _ _ (show 8 ≠ 0 by decide)]
    | 10, _, _ => simp only [zc_md, up2_ne _ _ _ (show 9 ≠ 0 by decide)]
    | 11, _, _ => simp only [zc_md, up2_ne _ _ _ (show 10 ≠ 0 by decide)]
    | 12, _, _ => simp only [zc_md, up2_ne _ _ _ (show 11 ≠ 0 by decide)]
    | 13, _, _ => simp only [zc_md, up2_ne _ _ _ (show 12 ≠ 0 by decide)]
    | 14, _, _ => simp only [zc_md, up2_ne _ _ _ (show 13 ≠ 0 by decide)]
    | 15, _, _ => rfl
    | 16, _, _ => simp only [zc_md, up2_ne _ _ _ (show 15 ≠ 0 by decide)]
    | 17, _, _ => simp only [zc_md, up2_ne _ _ _ (show 16 ≠ 0 by decide)]
    | 18, _, _ => simp only [zc_md, up2_ne _ _ _ (show 17 ≠ 0 by decide)]
    | 19, _, _ => simp only [zc_md, up2_ne _ _ _ (show 18 ≠ 0 by decide)]
    | 20, _, _ => simp only [zc_md, up2_ne _ _ _ (show 19 ≠ 0 by decide)]
    | 21, _, _ => simp only [zc_md, up2_ne _ _ _ (show 20 ≠ 0 by decide)]
    | 22, _, _ => simp only [zc_md, up2_ne _ _ _ (show 21 ≠ 0 by decide)]
    | 23, _, _ => simp only [zc_md, up2_ne _ _ _ (show 22 ≠ 0 by decide)]
    | 24, _, _ => simp only [zc_md, up2_ne _ _ _ (show 23 ≠ 0 by decide)]
    | 25, _, _ => simp only [zc_md, up2_ne _ _ _ (show 24 ≠ 0 by decide)]
    | 26, _, _ => simp only [zc_md, up2_ne _ _ _ (show 25 ≠ 0 by decide)]
    | 27, _, _ => simp only [zc_md, up2_ne _ _ _ (show 26 ≠ 0 by decide)]
    | 28, _, _ => simp only [zc_md, up2_ne _ _ _ (show 27 ≠ 0 by decide)]
    | 29, _, _ => simp only [zc_md, up2_ne _ _ _ (show 28 ≠ 0 by decide)]
    | 30, _, _ => simp only [zc_md, up2_ne _ _ _ (show 29 ≠ 0 by decide)]
    | 31, _, _ => simp only [zc_md, up2_ne _ _ _ (show 30 ≠ 0 by decide)]
    | j + 32, h, _ => exact absurd h (by omega)
theorem up_m1 {i : Nat} {v : Int32} : zx_up (zs b (B, F, (t, fr, lo, I, J))) (ma b 1) (.inl (0, 5, .inl (upd (I 1) i v))) = zs b (B, F, (t, fr, lo, up2 I 1 i v, J)) := by
  refine up_md 2 (by decide) ?_ (fun d h g => ?_)
  · simp only [zc_md, up2_at]; rfl
  · match d, h, g with
    | 0, _, _ => rfl
    | 1, _, _ => simp only [zc_md, up2_ne _ _ _ (show 0 ≠ 1 by decide)]
    | 2, _, g => exact absurd rfl g
    | 3, _, _ => rfl
    | 4, _, _ => simp only [zc_md, up2_ne _ _ _ (show 3 ≠ 1 by decide)]
    | 5, _, _ => simp only [zc_md, up2_ne _ _ _ (show 4 ≠ 1 by decide)]
    | 6, _, _ => simp only [zc_md, up2_ne _ _ _ (show 5 ≠ 1 by decide)]
    | 7, _, _ => simp only [zc_md, up2_ne _ _ _ (show 6 ≠ 1 by decide)]
    | 8, _, _ => rfl
    | 9, _, _ => simp only [zc_md, up2_ne _ _ _ (show 8 ≠ 1 by decide)]
    | 10, _, _ => simp only [zc_md, up2_ne _ _ _ (show 9 ≠ 1 by decide)]
    | 11, _, _ => simp only [zc_md, up2_ne _ _ _ (show 10 ≠ 1 by decide)]
    | 12, _, _ => simp only [zc_md, up2_ne _ _ _ (show 11 ≠ 1 by decide)]
    | 13, _, _ => simp only [zc_md, up2_ne _ _ _ (show 12 ≠ 1 by decide)]
    | 14, _, _ => simp only [zc_md, up2_ne _ _ _ (show 13 ≠ 1 by decide)]
    | 15, _, _ => rfl
    | 16, _, _ => simp only [zc_md, up2_ne _ _ _ (show 15 ≠ 1 by decide)]
    | 17, _, _ => simp only [zc_md, up2_ne _ _ _ (show 16 ≠ 1 by decide)]
    | 18, _, _ => simp only [zc_md, up2_ne _ _ _ (show 17 ≠ 1 by decide)]
    | 19, _, _ => simp only [zc_md, up2_ne _ _ _ (show 18 ≠ 1 by decide)]
    | 20, _, _ => simp only [zc_md, up2_ne _ _ _ (show 19 ≠ 1 by decide)]
    | 21, _, _ => simp only [zc_md, up2_ne _ _ _ (show 20 ≠ 1 by decide)]
    | 22, _, _ => simp only [zc_md, up2_ne _ _ _ (show 21 ≠ 1 by decide)]
    | 23, _, _ => simp only [zc_md, up2_ne _ _ _ (show 22 ≠ 1 by decide)]
    | 24, _, _ => simp only [zc_md, up2_ne _ _ _ (show 23 ≠ 1 by decide)]
    | 25, _, _ => simp only [zc_md, up2_ne _ _ _ (show 24 ≠ 1 by decide)]
    | 26, _, _ => simp only [zc_md, up2_ne _ _ _ (show 25 ≠ 1 by decide)]
    | 27, _, _ => simp only [zc_md, up2_ne _ _ _ (show 26 ≠ 1 by decide)]
    | 28, _, _ => simp only [zc_md, up2_ne _ _ _ (show 27 ≠ 1 by decide)]
    | 29, _, _ => simp only [zc_md, up2_ne _ _ _ (show 28 ≠ 1 by decide)]
    | 30, _, _ => simp only [zc_md, up2_ne _ _ _ (show 29 ≠ 1 by decide)]
    | 31, _, _ => simp only [zc_md, up2_ne _ _ _ (show 30 ≠ 1 by decide)]
    | j + 32, h, _ => exact absurd h (by omega)
theorem up_m2 {i : Nat} {v : Int64} : zx_up (zs b (B, F, (t, fr, lo, I, J))) (ma b 2) (.inl (1, 5, .inr (.inl (vp_updL (J 2) i v)))) = zs b (B, F, (t, fr, lo, I, up2 J 2 i v)) := by
  refine up_md 3 (by decide) ?_ (fun d h g => ?_)
  · simp only [zc_md, up2_at]; rfl
  · match d, h, g with
    | 0, _, _ => rfl
    | 1, _, _ => rfl
    | 2, _, _ => rfl
    | 3, _, g => exact absurd rfl g
    | 4, _, _ => rfl
    | 5, _, _ => rfl
    | 6, _, _ => rfl
    | 7, _, _ => rfl
    | 8, _, _ => simp only [zc_md, up2_ne _ _ _ (show 7 ≠ 2 by decide)]
    | 9, _, _ => rfl
    | 10, _, _ => rfl
    | 11, _, _ => rfl
    | 12, _, _ => rfl
    | 13, _, _ => rfl
    | 14, _, _ => rfl
    | 15, _, _ => simp only [zc_md, up2_ne _ _ _ (show 14 ≠ 2 by decide)]
    | 16, _, _ => rfl
    | 17, _, _ => rfl
    | 18, _, _ => rfl
    | 19, _, _ => rfl
    | 20, _, _ => rfl
    | 21, _, _ => rfl
    | 22, _, _ => rfl
    | 23, _, _ => rfl
    | 24, _, _ => rfl
    | 25, _, _ => rfl
    | 26, _, _ => rfl
    | 27, _, _ => rfl
    | 28, _, _ => rfl
    | 29, _, _ => rfl
    | 30, _, _ => rfl
    | 31, _, _ => rfl
    | j + 32, h, _ => exact absurd h (by omega)
theorem up_m3 {i : Nat} {v : Int32} : zx_up (zs b (B, F, (t, fr, lo, I, J))) (ma b 3) (.inl (2, 5, .inl (upd (I 3) i v))) = zs b (B, F, (t, fr, lo, up2 I 3 i v, J)) := by
  refine up_md 4 (by decide) ?_ (fun d h g => ?_)
  · simp only [zc_md, up2_at]; rfl
  · match d, h, g with
    | 0, _, _ => rfl
    | 1, _, _ => simp only [zc_md, up2_ne _ _ _ (show 0 ≠ 3 by decide)]
    | 2, _, _ => simp only [zc_md, up2_ne _ _ _ (show 1 ≠ 3 by decide)]
    | 3, _, _ => rfl
    | 4, _, g => exact absurd rfl g
    | 5, _, _ => simp only [zc_md, up2_ne _ _ _ (show 4 ≠ 3 by decide)]
    | 6, _, _ => simp only [zc_md, up2_ne _ _ _ (show 5 ≠ 3 by decide)]
    | 7, _, _ => simp only [zc_md, up2_ne _ _ _ (show 6 ≠ 3 by decide)]
    | 8, _, _ => rfl
    | 9, _, _ => simp only [zc_md, up2_ne _ _ _ (show 8 ≠ 3 by decide)]
    | 10, _, _ => simp only [zc_md, up2_ne _ _ _ (show 9 ≠ 3 by decide)]
    | 11, _, _ => simp only [zc_md, up2_ne _ _ _ (show 10 ≠ 3 by decide)]
    | 12, _, _ => simp only [zc_md, up2_ne _ _ _ (show 11 ≠ 3 by decide)]
    | 13, _, _ => simp only [zc_md, up2_ne _ _ _ (show 12 ≠ 3 by decide)]
    | 14, _, _ => simp only [zc_md, up2_ne _ _ _ (show 13 ≠ 3 by decide)]
    | 15, _, _ => rfl
    | 16, _, _ => simp only [zc_md, up2_ne _ _ _ (show 15 ≠ 3 by decide)]
    | 17, _, _ => simp only [zc_md, up2_ne _ _ _ (show 16 ≠ 3 by decide)]
    | 18, _, _ => simp only [zc_md, up2_ne _ _ _ (show 17 ≠ 3 by decide)]
    | 19, _, _ => simp only [zc_md, up2_ne _ _ _ (show 18 ≠ 3 by decide)]
    | 20, _, _ => simp only [zc_md, up2_ne _ _ _ (show 19 ≠ 3 by decide)]
    | 21, _, _ => simp only [zc_md, up2_ne _ _ _ (show 20 ≠ 3 by decide)]
    | 22, _, _ => simp only [zc_md, up2_ne _ _ _ (show 21 ≠ 3 by decide)]
    | 23, _, _ => simp only [zc_md, up2_ne _ _ _ (show 22 ≠ 3 by decide)]
    | 24, _, _ => simp only [zc_md, up2_ne _ _ _ (show 23 ≠ 3 by decide)]
    | 25, _, _ => simp only [zc_md, up2_ne _ _ _ (show 24 ≠ 3 by decide)]
    | 26, _, _ => simp only [zc_md, up2_ne _ _ _ (show 25 ≠ 3 by decide)]
    | 27, _, _ => simp only [zc_md, up2_ne _ _ _ (show 26 ≠ 3 by decide)]
    | 28, _, _ => simp only [zc_md, up2_ne _ _ _ (show 27 ≠ 3 by decide)]
    | 29, _, _ => simp only [zc_md, up2_ne _ _ _ (show 28 ≠ 3 by decide)]
    | 30, _, _ => simp only [zc_md, up2_ne _ _ _ (show 29 ≠ 3 by decide)]
    | 31, _, _ => simp only [zc_md, up2_ne _ _ _ (show 30 ≠ 3 by decide)]
    | j + 32, h, _ => exact absurd h (by omega)
theorem up_m4 {i : Nat} {v : Int32} : zx_up (zs b (B, F, (t, fr, lo, I, J))) (ma b 4) (.inl (0, 5, .inl (upd (I 4) i v))) = zs b (B, F, (t, fr, lo, up2 I 4 i v, J)) := by
  refine up_md 5 (by decide) ?_ (fun d h g => ?_)
  · simp only [zc_md, up2_at]; rfl
  · match d, h, g with
    | 0, _, _ => rfl
    | 1, _, _ => simp only [zc_md, up2_ne _ _ _ (show 0 ≠ 4 by decide)]
    | 2, _, _ => simp only [zc_md, up2_ne _ _ _ (show 1 ≠ 4 by decide)]
    | 3, _, _ => rfl
    | 4, _, _ => simp only [zc_md, up2_ne _ _ _ (show 3 ≠ 4 by decide)]
    | 5, _, g => exact absurd rfl g
    | 6, _, _ => simp only [zc_md, up2_ne _ _ _ (show 5 ≠ 4 by decide)]
    | 7, _, _ => simp only [zc_md, up2_ne _ _ _ (show 6 ≠ 4 by decide)]
    | 8, _, _ => rfl
    | 9, _, _ => simp only [zc_md, up2_ne _ _ _ (show 8 ≠ 4 by decide)]
    | 10, _, _ => simp only [zc_md, up2_ne _ _ _ (show 9 ≠ 4 by decide)]
    | 11, _, _ => simp only [zc_md, up2_ne _ _ _ (show 10 ≠ 4 by decide)]
    | 12, _, _ => simp only [zc_md, up2_ne _ _ _ (show 11 ≠ 4 by decide)]
    | 13, _, _ => simp only [zc_md, up2_ne _ _ _ (show 12 ≠ 4 by decide)]
    | 14, _, _ => simp only [zc_md, up2_ne _ _ _ (show 13 ≠ 4 by decide)]
    | 15, _, _ => rfl
    | 16, _, _ => simp only [zc_md, up2_ne _ _ _ (show 15 ≠ 4 by decide)]
    | 17, _, _ => simp only [zc_md, up2_ne _ _ _ (show 16 ≠ 4 by decide)]
    | 18, _, _ => simp only [zc_md, up2_ne _ _ _ (show 17 ≠ 4 by decide)]
    | 19, _, _ => simp only [zc_md, up2_ne _ _ _ (show 18 ≠ 4 by decide)]
    | 20, _, _ => simp only [zc_md, up2_ne _ _ _ (show 19 ≠ 4 by decide)]
    | 21, _, _ => simp only [zc_md, up2_ne _ _ _ (show 20 ≠ 4 by decide)]
    | 22, _, _ => simp only [zc_md, up2_ne _ _ _ (show 21 ≠ 4 by decide)]
    | 23, _, _ => simp only [zc_md, up2_ne _ _ _ (show 22 ≠ 4 by decide)]
    | 24, _, _ => simp only [zc_md, up2_ne _ _ _ (show 23 ≠ 4 by decide)]
    | 25, _, _ => simp only [zc_md, up2_ne _ _ _ (show 24 ≠ 4 by decide)]
    | 26, _, _ => simp only [zc_md, up2_ne _ _ _ (show 25 ≠ 4 by decide)]
    | 27, _, _ => simp only [zc_md, up2_ne _ _ _ (show 26 ≠ 4 by decide)]
    | 28, _, _ => simp only [zc_md, up2_ne _ _ _ (show 27 ≠ 4 by decide)]
    | 29, _, _ => simp only [zc_md, up2_ne _ _ _ (show 28 ≠ 4 by decide)]
    | 30, _, _ => simp only [zc_md, up2_ne _ _ _ (show 29 ≠ 4 by decide)]
    | 31, _, _ => simp only [zc_md, up2_ne _ _ _ (show 30 ≠ 4 by decide)]
    | j + 32, h, _ => exact absurd h (by omega)
theorem up_m5 {i : Nat} {v : Int32} : zx_up (zs b (B, F, (t, fr, lo, I, J))) (ma b 5) (.inl (0, 25, .inl (upd (I 5) i v))) = zs b (B, F, (t, fr, lo, up2 I 5 i v, J)) := by
  refine up_md 6 (by decide) ?_ (fun d h g => ?_)
  · simp only [zc_md, up2_at]; rfl
  · match d, h, g with
    | 0, _, _ => rfl
    | 1, _, _ => simp only [zc_md, up2_ne _ _ _ (show 0 ≠ 5 by decide)]
    | 2, _, _ => simp only [zc_md, up2_ne _ _ _ (show 1 ≠ 5 by decide)]
    | 3, _, _ => rfl
    | 4, _, _ => simp only [zc_md, up2_ne _ _ _ (show 3 ≠ 5 by decide)]
    | 5, _, _ => simp only [zc_md, up2_ne _ _ _ (show 4 ≠ 5 by decide)]
    | 6, _, g => exact absurd rfl g
    | 7, _, _ => simp only [zc_md, up2_ne _ _ _ (show 6 ≠ 5 by decide)]
    | 8, _, _ => rfl
    | 9, _, _ => simp only [zc_md, up2_ne _ _ _ (show 8 ≠ 5 by decide)]
    | 10, _, _ => simp only [zc_md, up2_ne _ _ _ (show 9 ≠ 5 by decide)]
    | 11, _, _ => simp only [zc_md, up2_ne _ _ _ (show 10 ≠ 5 by decide)]
    | 12, _, _ => simp only [zc_md, up2_ne _ _ _ (show 11 ≠ 5 by decide)]
    | 13, _, _ => simp only [zc_md, up2_ne _ _ _ (show 12 ≠ 5 by decide)]
    | 14, _, _ => simp only [zc_md, up2_ne _ _ _ (show 13 ≠ 5 by decide)]
    | 15, _, _ => rfl
    | 16, _, _ => simp only [zc_md, up2_ne _ _ _ (show 15 ≠ 5 by decide)]
    | 17, _, _ => simp only [zc_md, up2_ne _ _ _ (show 16 ≠ 5 by decide)]
    | 18, _, _ => simp only [zc_md, up2_ne _ _ _ (show 17 ≠ 5 by decide)]
    | 19, _, _ => simp only [zc_md, up2_ne _ _ _ (show 18 ≠ 5 by decide)]
    | 20, _, _ => simp only [zc_md, up2_ne _ _ _ (show 19 ≠ 5 by decide)]
    | 21, _, _ => simp only [zc_md, up2_ne _ _ _ (show 20 ≠ 5 by decide)]
    | 22, _, _ => simp only [zc_md, up2_ne _ _ _ (show 21 ≠ 5 by decide)]
    | 23, _, _ => simp only [zc_md, up2_ne _ _ _ (show 22 ≠ 5 by decide)]
    | 24, _, _ => simp only [zc_md, up2_ne _ _ _ (show 23 ≠ 5 by decide)]
    | 25, _, _ => simp only [zc_md, up2_ne _ _ _ (show 24 ≠ 5 by decide)]
    | 26, _, _ => simp only [zc_md, up2_ne _ _ _ (show 25 ≠ 5 by decide)]
    | 27, _, _ => simp only [zc_md, up2_ne _ _ _ (show 26 ≠ 5 by decide)]
    | 28, _, _ => simp only [zc_md, up2_ne _ _ _ (show 27 ≠ 5 by decide)]
    | 29, _, _ => simp only [zc_md, up2_ne _ _ _ (show 28 ≠ 5 by decide)]
    | 30, _, _ => simp only [zc_md, up2_ne _ _ _ (show 29 ≠ 5 by decide)]
    | 31, _, _ => simp only [zc_md, up2_ne _ _ _ (show 30 ≠ 5 by decide)]
    | j + 32, h, _ => exact absurd h (by omega)
theorem up_m6 {i : Nat} {v : Int32} : zx_up (zs b (B, F, (t, fr, lo, I, J))) (ma b 6) (.inl (0, 48, .inl (upd (I 6) i v))) = zs b (B, F, (t, fr, lo, up2 I 6 i v, J)) := by
  refine up_md 7 (by decide) ?_ (fun d h g => ?_)
  · simp only [zc_md, up2_at]; rfl
  · match d, h, g with
    | 0, _, _ => rfl
    | 1, _, _ => simp only [zc_md, up2_ne _ _ _ (show 0 ≠ 6 by decide)]
    | 2, _, _ => simp only [zc_md, up2_ne _ _ _ (show 1 ≠ 6 by decide)]
    | 3, _, _ => rfl
    | 4, _, _ => simp only [zc_md, up2_ne _ _ _ (show 3 ≠ 6 by decide)]
    | 5, _, _ => simp only [zc_md, up2_ne _ _ _ (show 4 ≠ 6 by decide)]
    | 6, _, _ => simp only [zc_md, up2_ne _ _ _ (show 5 ≠ 6 by decide)]
    | 7, _, g => exact absurd rfl g
    | 8, _, _ => rfl
    | 9, _, _ => simp only [zc_md, up2_ne _ _ _ (show 8 ≠ 6 by decide)]
    | 10, _, _ => simp only [zc_md, up2_ne _ _ _ (show 9 ≠ 6 by decide)]
    | 11, _, _ => simp only [zc_md, up2_ne _ _ _ (show 10 ≠ 6 by decide)]
    | 12, _, _ => simp only [zc_md, up2_ne _ _ _ (show 11 ≠ 6 by decide)]
    | 13, _, _ => simp only [zc_md, up2_ne _ _ _ (show 12 ≠ 6 by decide)]
    | 14, _, _ => simp only [zc_md, up2_ne _ _ _ (show 13 ≠ 6 by decide)]
    | 15, _, _ => rfl
    | 16, _, _ => simp only [zc_md, up2_ne _ _ _ (show 15 ≠ 6 by decide)]
    | 17, _, _ => simp only [zc_md, up2_ne _ _ _ (show 16 ≠ 6 by decide)]
    | 18, _, _ => simp only [zc_md, up2_ne _ _ _ (show 17 ≠ 6 by decide)]
    | 19, _, _ => simp only [zc_md, up2_ne _ _ _ (show 18 ≠ 6 by decide)]
    | 20, _, _ => simp only [zc_md, up2_ne _ _ _ (show 19 ≠ 6 by decide)]
    | 21, _, _ => simp only [zc_md, up2_ne _ _ _ (show 20 ≠ 6 by decide)]
    | 22, _, _ => simp only [zc_md, up2_ne _ _ _ (show 21 ≠ 6 by decide)]
    | 23, _, _ => simp only [zc_md, up2_ne _ _ _ (show 22 ≠ 6 by decide)]
    | 24, _, _ => simp only [zc_md, up2_ne _ _ _ (show 23 ≠ 6 by decide)]
    | 25, _, _ => simp only [zc_md, up2_ne _ _ _ (show 24 ≠ 6 by decide)]
    | 26, _, _ => simp only [zc_md, up2_ne _ _ _ (show 25 ≠ 6 by decide)]
    | 27, _, _ => simp only [zc_md, up2_ne _ _ _ (show 26 ≠ 6 by decide)]
    | 28, _, _ => simp only [zc_md, up2_ne _ _ _ (show 27 ≠ 6 by decide)]
    | 29, _, _ => simp only [zc_md, up2_ne _ _ _ (show 28 ≠ 6 by decide)]
    | 30, _, _ => simp only [zc_md, up2_ne _ _ _ (show 29 ≠ 6 by decide)]
    | 31, _, _ => simp only [zc_md, up2_ne _ _ _ (show 30 ≠ 6 by decide)]
    | j + 32, h, _ => exact absurd h (by omega)
theorem up_m7 {i : Nat} {v : Int64} : zx_up (zs b (B, F, (t, fr, lo, I, J))) (ma b 7) (.inl (1, 48, .inr (.inl (vp_updL (J 7) i v)))) = zs b (B, F, (t, fr, lo, I, up2 J 7 i v)) := by
  refine up_md 8 (by decide) ?_ (fun d h g => ?_)
  · simp only [zc_md, up2_at]; rfl
  · match d, h, g with
    | 0, _, _ => rfl
    | 1, _, _ => rfl
    | 2, _, _ => rfl
    | 3, _, _ => simp only [zc_md, up2_ne _ _ _ (show 2 ≠ 7 by decide)]
    | 4, _, _ => rfl
    | 5, _, _ => rfl
    | 6, _, _ => rfl
    | 7, _, _ => rfl
    | 8, _, g => exact absurd rfl g
    | 9, _, _ => rfl
    | 10, _, _ => rfl
    | 11, _, _ => rfl
    | 12, _, _ => rfl
    | 13, _, _ => rfl
    | 14, _, _ => rfl
    | 15, _, _ => simp only [zc_md, up2_ne _ _ _ (show 14 ≠ 7 by decide)]
    | 16, _, _ => rfl
    | 17, _, _ => rfl
    | 18, _, _ => rfl
    | 19, _, _ => rfl
    | 20, _, _ => rfl
    | 21, _, _ => rfl
    | 22, _, _ => rfl
    | 23, _, _ => rfl
    | 24, _, _ => rfl
    | 25, _, _ => rfl
    | 26, _, _ => rfl
    | 27, _, _ => rfl
    | 28, _, _ => rfl
    | 29, _, _ => rfl
    | 30, _, _ => rfl
    | 31, _, _ => rfl
    | j + 32, h, _ => exact absurd h (by omega)
theorem up_m8 {i : Nat} {v : Int32} : zx_up (zs b (B, F, (t, fr, lo, I, J))) (ma b 8) (.inl (0, 48, .inl (upd (I 8) i v))) = zs b (B, F, (t, fr, lo, up2 I 8 i v, J)) := by
  refine up_md 9 (by decide) ?_ (fun d h g => ?_)
  · simp only [zc_md, up2_at]; rfl
  · match d, h, g with
    | 0, _, _ => rfl
    | 1, _, _ => simp only [zc_md, up2_ne _ _ _ (show 0 ≠ 8 by decide)]
    | 2, _, _ => simp only [zc_md, up2_ne _ _ _ (show 1 ≠ 8 by decide)]
    | 3, _, _ => rfl
    | 4, _, _ => simp only [zc_md, up2_ne _ _ _ (show 3 ≠ 8 by decide)]
    | 5, _, _ => simp only [zc_md, up2_ne _ _ _ (show 4 ≠ 8 by decide)]
    | 6, _, _ => simp only [zc_md, up2_ne _ _ _ (show 5 ≠ 8 by decide)]
    | 7, _, _ => simp only [zc_md, up2_ne _ _ _ (show 6 ≠ 8 by decide)]
    | 8, _, _ => rfl
    | 9, _, g => exact absurd rfl g
    | 10, _, _ => simp only [zc_md, up2_ne _ _ _ (show 9 ≠ 8 by decide)]
    | 11, _, _ => simp only [zc_md, up2_ne _ _ _ (show 10 ≠ 8 by decide)]
    | 12, _, _ => simp only [zc_md, up2_ne _ _ _ (show 11 ≠ 8 by decide)]
    | 13, _, _ => simp only [zc_md, up2_ne _ _ _ (show 12 ≠ 8 by decide)]
    | 14, _, _ => simp only [zc_md, up2_ne _ _ _ (show 13 ≠ 8 by decide)]
    | 15, _, _ => rfl
    | 16, _, _ => simp only [zc_md, up2_ne _ _ _ (show 15 ≠ 8 by decide)]
    | 17, _, _ => simp only [zc_md, up2_ne _ _ _ (show 16 ≠ 8 by decide)]
    | 18, _, _ => simp only [zc_md, up2_ne _ _ _ (show 17 ≠ 8 by decide)]
    | 19, _, _ => simp only [zc_md, up2_ne _ _ _ (show 18 ≠ 8 by decide)]
    | 20, _, _ => simp only [zc_md, up2_ne _ _ _ (show 19 ≠ 8 by decide)]
    | 21, _, _ => simp only [zc_md, up2_ne _ _ _ (show 20 ≠ 8 by decide)]
    | 22, _, _ => simp only [zc_md, up2_ne _ _ _ (show 21 ≠ 8 by decide)]
    | 23, _, _ => simp only [zc_md, up2_ne _ _ _ (show 22 ≠ 8 by decide)]
    | 24, _, _ => simp only [zc_md, up2_ne _ _ _ (show 23 ≠ 8 by decide)]
    | 25, _, _ => simp only [zc_md, up2_ne _ _ _ (show 24 ≠ 8 by decide)]
    | 26, _, _ => simp only [zc_md, up2_ne _ _ _ (show 25 ≠ 8 by decide)]
    | 27, _, _ => simp only [zc_md, up2_ne _ _ _ (show 26 ≠ 8 by decide)]
    | 28, _, _ => simp only [zc_md, up2_ne _ _ _ (show 27 ≠ 8 by decide)]
    | 29, _, _ => simp only [zc_md, up2_ne _ _ _ (show 28 ≠ 8 by decide)]
    | 30, _, _ => simp only [zc_md, up2_ne _ _ _ (show 29 ≠ 8 by decide)]
    | 31, _, _ => simp only [zc_md, up2_ne _ _ _ (show 30 ≠ 8 by decide)]
    | j + 32, h, _ => exact absurd h (by omega)
theorem up_m9 {i : Nat} {v : Int32} : zx_up (zs b (B, F, (t, fr, lo, I, J))) (ma b 9) (.inl (0, 5, .inl (upd (I 9) i v))) = zs b (B, F, (t, fr, lo, up2 I 9 i v, J)) := by
  refine up_md 10 (by decide) ?_ (fun d h g => ?_)
  · simp only [zc_md, up2_at]; rfl
  · match d, h, g with
    | 0, _, _ => rfl
    | 1, _, _ => simp only [zc_md, up2_ne _ _ _ (show 0 ≠ 9 by decide)]
    | 2, _, _ => simp only [zc_md, up2_ne _ _ _ (show 1 ≠ 9 by decide)]
    | 3, _, _ => rfl
    | 4, _, _ => simp only [zc_md, up2_ne _ _ _ (show 3 ≠ 9 by decide)]
    | 5, _, _ => simp only [zc_md, up2_ne _ _ _ (show 4 ≠ 9 by decide)]
    | 6, _, _ => simp only [zc_md, up2_ne _ _ _ (show 5 ≠ 9 by decide)]
    | 7, _, _ => simp only [zc_md, up2_ne _ _ _ (show 6 ≠ 9 by decide)]
    | 8, _, _ => rfl
    | 9, _, _ => simp only [zc_md, up2_ne _ _ _ (show 8 ≠ 9 by decide)]
    | 10, _, g => exact absurd rfl g
    | 11, _, _ => simp only [zc_md, up2_ne _ _ _ (show 10 ≠ 9 by decide)]
    | 12, _, _ => simp only [zc_md, up2_ne _ _ _ (show 11 ≠ 9 by decide)]
    | 13, _, _ => simp only [zc_md, up2_ne _ _ _ (show 12 ≠ 9 by decide)]
    | 14, _, _ => simp only [zc_md, up2_ne _ _ _ (show 13 ≠ 9 by decide)]
    | 15, _, _ => rfl
    | 16, _, _ => simp only [zc_md, up2_ne _ _ _ (show 15 ≠ 9 by decide)]
    | 17, _, _ => simp only [zc_md, up2_ne _ _ _ (show 16 ≠ 9 by decide)]
    | 18, _, _ => simp only [zc_md, up2_ne _ _ _ (show 17 ≠ 9 by decide)]
    | 19, _, _ => simp only [zc_md, up2_ne _ _ _ (show 18 ≠ 9 by decide)]
    | 20, _, _ => simp only [zc_md, up2_ne _ _ _ (show 19 ≠ 9 by decide)]
    | 21, _, _ => simp only [zc_md, up2_ne _ _ _ (show 20 ≠ 9 by decide)]
    | 22, _, _ => simp only [zc_md, up2_ne _ _ _ (show 21 ≠ 9 by decide)]
    | 23, _, _ => simp only [zc_md, up2_ne _ _ _ (show 22 ≠ 9 by decide)]
    | 24, _, _ => simp only [zc_md, up2_ne _ _ _ (show 23 ≠ 9 by decide)]
    | 25, _, _ => simp only [zc_md, up2_ne _ _ _ (show 24 ≠ 9 by decide)]
    | 26, _, _ => simp only [zc_md, up2_ne _ _ _ (show 25 ≠ 9 by decide)]
    | 27, _, _ => simp only [zc_md, up2_ne _ _ _ (show 26 ≠ 9 by decide)]
    | 28, _, _ => simp only [zc_md, up2_ne _ _ _ (show 27 ≠ 9 by decide)]
    | 29, _, _ => simp only [zc_md, up2_ne _ _ _ (show 28 ≠ 9 by decide)]
    | 30, _, _ => simp only [zc_md, up2_ne _ _ _ (show 29 ≠ 9 by decide)]
    | 31, _, _ => simp only [zc_md, up2_ne _ _ _ (show 30 ≠ 9 by decide)]
    | j + 32, h, _ => exact absurd h (by omega)
theorem up_m10 {i : Nat} {v : Int32} : zx_up (zs b (B, F, (t, fr, lo, I, J))) (ma b 10) (.inl (0, 5, .inl (upd (I 10) i v))) = zs b (B, F, (t, fr, lo, up2 I 10 i v, J)) := by
  refine up_md 11 (by decide) ?_ (fun d h g => ?_)
  · simp only [zc_md, up2_at]; rfl
  · match d, h, g with
    | 0, _, _ => rfl
    | 1, _, _ => simp only [zc_md, up2_ne _ _ _ (show 0 ≠ 10 by decide)]
    | 2, _, _ => simp only [zc_md, up2_ne _ _ _ (show 1 ≠ 10 by decide)]
    | 3, _, _ => rfl
    | 4, _, _ => simp only [zc_md, up2_ne _ _ _ (show 3 ≠ 10 by decide)]
    | 5, _, _ => simp only [zc_md, up2_ne _ _ _ (show 4 ≠ 10 by decide)]
    | 6, _, _ => simp only [zc_md, up2_ne _ _ _ (show 5 ≠ 10 by decide)]
    | 7, _, _ => simp only [zc_md, up2_ne _ _ _ (show 6 ≠ 10 by decide)]
    | 8, _, _ => rfl
    | 9, _, _ => simp only [zc_md, up2_ne _ _ _ (show 8 ≠ 10 by decide)]
    | 10, _, _ => simp only [zc_md, up2_ne _ _ _ (show 9 ≠ 10 by decide)]
    | 11, _, g => exact absurd rfl g
    | 12, _, _ => simp only [zc_md, up2_ne _ _ _ (show 11 ≠ 10 by decide)]
    | 13, _, _ => simp only [zc_md, up2_ne _ _ _ (show 12 ≠ 10 by decide)]
    | 14, _, _ => simp only [zc_md, up2_ne _ _ _ (show 13 ≠ 10 by decide)]
    | 15, _, _ => rfl
    | 16, _, _ => simp only [zc_md, up2_ne _ _ _ (show 15 ≠ 10 by decide)]
    | 17, _, _ => simp only [zc_md, up2_ne _ _ _ (show 16 ≠ 10 by decide)]
    | 18, _, _ => simp only [zc_md, up2_ne _ _ _ (show 17 ≠ 10 by decide)]
    | 19, _, _ => simp only [zc_md, up2_ne _ _ _ (show 18 ≠ 10 by decide)]
    | 20, _, _ => simp only [zc_md, up2_ne _ _ _ (show 19 ≠ 10 by decide)]
    | 21, _, _ => simp only [zc_md, up2_ne _ _ _ (show 20 ≠ 10 by decide)]
    | 22, _, _ => simp only [zc_md, up2_ne _ _ _ (show 21 ≠ 10 by decide)]
    | 23, _, _ => simp only [zc_md, up2_ne _ _ _ (show 22 ≠ 10 by decide)]
    | 24, _, _ => simp only [zc_md, up2_ne _ _ _ (show 23 ≠ 10 by decide)]
    | 25, _, _ => simp only [zc_md, up2_ne _ _ _ (show 24 ≠ 10 by decide)]
    | 26, _, _ => simp only [zc_md, up2_ne _ _ _ (show 25 ≠ 10 by decide)]
    | 27, _, _ => simp only [zc_md, up2_ne _ _ _ (show 26 ≠ 10 by decide)]
    | 28, _, _ => simp only [zc_md, up2_ne _ _ _ (show 27 ≠ 10 by decide)]
    | 29, _, _ => simp only [zc_md, up2_ne _ _ _ (show 28 ≠ 10 by decide)]
    | 30, _, _ => simp only [zc_md, up2_ne _ _ _ (show 29 ≠ 10 by decide)]
    | 31, _, _ => simp only [zc_md, up2_ne _ _ _ (show 30 ≠ 10 by decide)]
    | j + 32, h, _ => exact absurd h (by omega)
theorem up_m11 {i : Nat} {v : Int32} : zx_up (zs b (B, F, (t, fr, lo, I, J))) (ma b 11) (.inl (0, 5, .inl (upd (I 11) i v))) = zs b (B, F, (t, fr, lo, up2 I 11 i v, J)) := by
  refine up_md 12 (by decide) ?_ (fun d h g => ?_)
  · simp only [zc_md, up2_at]; rfl
  · match d, h, g with
    | 0, _, _ => rfl
    | 1, _, _ => simp only [zc_md, up2_ne _ _ _ (show 0 ≠ 11 by decide)]
    | 2, _, _ => simp only [zc_md, up2_ne _ _ _ (show 1 ≠ 11 by decide)]
    | 3, _, _ => rfl
    | 4, _, _ => simp only [zc_md, up2_ne _ _ _ (show 3 ≠ 11 by decide)]
    | 5, _, _ => simp only [zc_md, up2_ne _ _ _ (show 4 ≠ 11 by decide)]
    | 6, _, _ => simp only [zc_md, up2_ne _ _ _ (show 5 ≠ 11 by decide)]
    | 7, _, _ => simp only [zc_md, up2_ne _ _ _ (show 6 ≠ 11 by decide)]
    | 8, _, _ => rfl
    | 9, _, _ => simp only [zc_md, up2_ne _ _ _ (show 8 ≠ 11 by decide)]
    | 10, _, _ => simp only [zc_md, up2_ne _ _ _ (show 9 ≠ 11 by decide)]
    | 11, _, _ => simp only [zc_md, up2_ne _ _ _ (show 10 ≠ 11 by decide)]
    | 12, _, g => exact absurd rfl g
    | 13, _, _ => simp only [zc_md, up2_ne _ _ _ (show 12 ≠ 11 by decide)]
    | 14, _, _ => simp only [zc_md, up2_ne _ _ _ (show 13 ≠ 11 by decide)]
    | 15, _, _ => rfl
    | 16, _, _ => simp only [zc_md, up2_ne _ _ _ (show 15 ≠ 11 by decide)]
    | 17, _, _ => simp only [zc_md, up2_ne _ _ _ (show 16 ≠ 11 by decide)]
    | 18, _, _ => simp only [zc_md, up2_ne _ _ _ (show 17 ≠ 11 by decide)]
    | 19, _, _ => simp only [zc_md, up2_ne _ _ _ (show 18 ≠ 11 by decide)]
    | 20, _, _ => simp only [zc_md, up2_ne _ _ _ (show 19 ≠ 11 by decide)]
    | 21, _, _ => simp only [zc_md, up2_ne _ _ _ (show 20 ≠ 11 by decide)]
    | 22, _, _ => simp only [zc_md, up2_ne _ _ _ (show 21 ≠ 11 by decide)]
    | 23, _, _ => simp only [zc_md, up2_ne _ _ _ (show 22 ≠ 11 by decide)]
    | 24, _, _ => simp only [zc_md, up2_ne _ _ _ (show 23 ≠ 11 by decide)]
    | 25, _, _ => simp only [zc_md, up2_ne _ _ _ (show 24 ≠ 11 by decide)]
    | 26, _, _ => simp only [zc_md, up2_ne _ _ _ (show 25 ≠ 11 by decide)]
    | 27, _, _ => simp only [zc_md, up2_ne _ _ _ (show 26 ≠ 11 by decide)]
    | 28, _, _ => simp only [zc_md, up2_ne _ _ _ (show 27 ≠ 11 by decide)]
    | 29, _, _ => simp only [zc_md, up2_ne _ _ _ (show 28 ≠ 11 by decide)]
    | 30, _, _ => simp only [zc_md, up2_ne _ _ _ (show 29 ≠ 11 by decide)]
    | 31, _, _ => simp only [zc_md, up2_ne _ _ _ (show 30 ≠ 11 by decide)]
    | j + 32, h, _ => exact absurd h (by omega)
theorem up_m12 {i : Nat} {v : Int32} : zx_up (zs b (B, F, (t, fr, lo, I, J))) (ma b 12) (.inl (0, 5, .inl (upd (I 12) i v))) = zs b (B, F, (t, fr, lo, up2 I 12 i v, J)) := by
  refine up_md 13 (by decide) ?_ (fun d h g => ?_)
  · simp only [zc_md, up2_at]; rfl
  · match d, h, g with
    | 0, _, _ => rfl
    | 1, _, _ => simp only [zc_md, up2_ne _ _ _ (show 0 ≠ 12 by decide)]
    | 2, _, _ => simp only [zc_md, up2_ne _ _ _ (show 1 ≠ 12 by decide)]
    | 3, _, _ => rfl
    | 4, _, _ => simp only [zc_md, up2_ne _ _ _ (show 3 ≠ 12 by decide)]
    | 5, _, _ => simp only [zc_md, up2_ne _ _ _ (show 4 ≠ 12 by decide)]
    | 6, _, _ => simp only [zc_md, up2_ne _ _ _ (show 5 ≠ 12 by decide)]
    | 7, _, _ => simp only [zc_md, up2_ne _ _ _ (show 6 ≠ 12 by decide)]
    | 8, _, _ => rfl
    | 9, _, _ => simp only [zc_md, up2_ne _ _ _ (show 8 ≠ 12 by decide)]
    | 10, _, _ => simp only [zc_md, up2_ne _ _ _ (show 9 ≠ 12 by decide)]
    | 11, _, _ => simp only [zc_md, up2_ne _ _ _ (show 10 ≠ 12 by decide)]
    | 12, _, _ => simp only [zc_md, up2_ne _ _ _ (show 11 ≠ 12 by decide)]
    | 13, _, g => exact absurd rfl g
    | 14, _, _ => simp only [zc_md, up2_ne _ _ _ (show 13 ≠ 12 by decide)]
    | 15, _, _ => rfl
    | 16, _, _ => simp only [zc_md, up2_ne _ _ _ (show 15 ≠ 12 by decide)]
    | 17, _, _ => simp only [zc_md, up2_ne _ _ _ (show 16 ≠ 12 by decide)]
    | 18, _, _ => simp only [zc_md, up2_ne _ _ _ (show 17 ≠ 12 by decide)]
    | 19, _, _ => simp only [zc_md, up2_ne _ _ _ (show 18 ≠ 12 by decide)]
    | 20, _, _ => simp only [zc_md, up2_ne _ _ _ (show 19 ≠ 12 by decide)]
    | 21, _, _ => simp only [zc_md, up2_ne _ _ _ (show 20 ≠ 12 by decide)]
    | 22, _, _ => simp only [zc_md, up2_ne _ _ _ (show 21 ≠ 12 by decide)]
    | 23, _, _ => simp only [zc_md, up2_ne _ _ _ (show 22 ≠ 12 by decide)]
    | 24, _, _ => simp only [zc_md, up2_ne _ _ _ (show 23 ≠ 12 by decide)]
    | 25, _, _ => simp only [zc_md, up2_ne _ _ _ (show 24 ≠ 12 by decide)]
    | 26, _, _ => simp only [zc_md, up2_ne _ _ _ (show 25 ≠ 12 by decide)]
    | 27, _, _ => simp only [zc_md, up2_ne _ _ _ (show 26 ≠ 12 by decide)]
    | 28, _, _ => simp only [zc_md, up2_ne _ _ _ (show 27 ≠ 12 by decide)]
    | 29, _, _ => simp only [zc_md, up2_ne _ _ _ (show 28 ≠ 12 by decide)]
    | 30, _, _ => simp only [zc_md, up2_ne _ _ _ (show 29 ≠ 12 by decide)]
    | 31, _, _ => simp only [zc_md, up2_ne _ _ _ (show 30 ≠ 12 by decide)]
    | j + 32, h, _ => exact absurd h (by omega)
theorem up_m13 {i : Nat} {v : Int32} : zx_up (zs b (B, F, (t, fr, lo, I, J))) (ma b 13) (.inl (0, 5, .inl (upd (I 13) i v))) = zs b (B, F, (t, fr, lo, up2 I 13 i v, J)) := by
  refine up_md 14 (by decide) ?_ (fun d h g => ?_)
  · simp only [zc_md, up2_at]; rfl
  · match d, h, g with
    | 0, _, _ => rfl
    | 1, _, _ => simp only [zc_md, up2_ne _ _ _ (show 0 ≠ 13 by decide)]
    | 2, _, _ => simp only [zc_md, up2_ne _ _ _ (show 1 ≠ 13 by decide)]
    | 3, _, _ => rfl
    | 4, _, _ => simp only [zc_md, up2_ne _ _ _ (show 3 ≠ 13 by decide)]
    | 5, _, _ => simp only [zc_md, up2_ne _ _ _ (show 4 ≠ 13 by decide)]
    | 6, _, _ => simp only [zc_md, up2_ne _ _ _ (show 5 ≠ 13 by decide)]
    | 7, _, _ => simp only [zc_md, up2_ne _ _ _ (show 6 ≠ 13 by decide)]
    | 8, _, _ => rfl
    | 9, _, _ => simp only [zc_md, up2_ne _ _ _ (show 8 ≠ 13 by decide)]
    | 10, _, _ => simp only [zc_md, up2_ne _ _ _ (show 9 ≠ 13 by decide)]
    | 11, _, _ => simp only [zc_md, up2_ne _ _ _ (show 10 ≠ 13 by decide)]
    | 12, _, _ => simp only [zc_md, up2_ne _ _ _ (show 11 ≠ 13 by decide)]
    | 13, _, _ => simp only [zc_md, up2_ne _ _ _ (show 12 ≠ 13 by decide)]
    | 14, _, g => exact absurd rfl g
    | 15, _, _ => rfl
    | 16, _, _ => simp only [zc_md, up2_ne _ _ _ (show 15 ≠ 13 by decide)]
    | 17, _, _ => simp only [zc_md, up2_ne _ _ _ (show 16 ≠ 13 by decide)]
    | 18, _, _ => simp only [zc_md, up2_ne _ _ _ (show 17 ≠ 13 by decide)]
    | 19, _, _ => simp only [zc_md, up2_ne _ _ _ (show 18 ≠ 13 by decide)]
    | 20, _, _ => simp only [zc_md, up2_ne _ _ _ (show 19 ≠ 13 by decide)]
    | 21, _, _ => simp only [zc_md, up2_ne _ _ _ (show 20 ≠ 13 by decide)]
    | 22, _, _ => simp only [zc_md, up2_ne _ _ _ (show 21 ≠ 13 by decide)]
    | 23, _, _ => simp only [zc_md, up2_ne _ _ _ (show 22 ≠ 13 by decide)]
    | 24, _, _ => simp only [zc_md, up2_ne _ _ _ (show 23 ≠ 13 by decide)]
    | 25, _, _ => simp only [zc_md, up2_ne _ _ _ (show 24 ≠ 13 by decide)]
    | 26, _, _ => simp only [zc_md, up2_ne _ _ _ (show 25 ≠ 13 by decide)]
    | 27, _, _ => simp only [zc_md, up2_ne _ _ _ (show 26 ≠ 13 by decide)]
    | 28, _, _ => simp only [zc_md, up2_ne _ _ _ (show 27 ≠ 13 by decide)]
    | 29, _, _ => simp only [zc_md, up2_ne _ _ _ (show 28 ≠ 13 by decide)]
    | 30, _, _ => simp only [zc_md, up2_ne _ _ _ (show 29 ≠ 13 by decide)]
    | 31, _, _ => simp only [zc_md, up2_ne _ _ _ (show 30 ≠ 13 by decide)]
    | j + 32, h, _ => exact absurd h (by omega)
theorem up_m14 {i : Nat} {v : Int64} : zx_up (zs b (B, F, (t, fr, lo, I, J))) (ma b 14) (.inl (1, 5, .inr (.inl (vp_updL (J 14) i v)))) = zs b (B, F, (t, fr, lo, I, up2 J 14 i v)) := by
  refine up_md 15 (by decide) ?_ (fun d h g => ?_)
  · simp only [zc_md, up2_at]; rfl
  · match d, h, g with
    | 0, _, _ => rfl
    | 1, _, _ => rfl
    | 2, _, _ => rfl
    | 3, _, _ => simp only [zc_md, up2_ne _ _ _ (show 2 ≠ 14 by decide)]
    | 4, _, _ => rfl
    | 5, _, _ => rfl
    | 6, _, _ => rfl
    | 7, _, _ => rfl
    | 8, _, _ => simp only [zc_md, up2_ne _ _ _ (show 7 ≠ 14 by decide)]
    | 9, _, _ => rfl
    | 10, _, _ => rfl
    | 11, _, _ => rfl
    | 12, _, _ => rfl
    | 13, _, _ => rfl
    | 14, _, _ => rfl
    | 15, _, g => exact absurd rfl g
    | 16, _, _ => rfl
    | 17, _, _ => rfl
    | 18, _, _ => rfl
    | 19, _, _ => rfl
    | 20, _, _ => rfl
    | 21, _, _ => rfl
    | 22, _, _ => rfl
    | 23, _, _ => rfl
    | 24, _, _ => rfl
    | 25, _, _ => rfl
    | 26, _, _ => rfl
    | 27, _, _ => rfl
    | 28, _, _ => rfl
    | 29, _, _ => rfl
    | 30, _, _ => rfl
    | 31, _, _ => rfl
    | j + 32, h, _ => exact absurd h (by omega)
theorem up_m15 {i : Nat} {v : Int32} : zx_up (zs b (B, F, (t, fr, lo, I, J))) (ma b 15) (.inl (0, 5, .inl (upd (I 15) i v))) = zs b (B, F, (t, fr, lo, up2 I 15 i v, J)) := by
  refine up_md 16 (by decide) ?_ (fun d h g => ?_)
  · simp only [zc_md, up2_at]; rfl
  · match d, h, g with
    | 0, _, _ => rfl
    | 1, _, _ => simp only [zc_md, up2_ne _ _ _ (show 0 ≠ 15 by decide)]
    | 2, _, _ => simp only [zc_md, up2_ne _ _ _ (show 1 ≠ 15 by decide)]
    | 3, _, _ => rfl
    | 4, _, _ => simp only [zc_md, up2_ne _ _ _ (show 3 ≠ 15 by decide)]
    | 5, _, _ => simp only [zc_md, up2_ne _ _ _ (show 4 ≠ 15 by decide)]
    | 6, _, _ => simp only [zc_md, up2_ne _ _ _ (show 5 ≠ 15 by decide)]
    | 7, _, _ => simp only [zc_md, up2_ne _ _ _ (show 6 ≠ 15 by decide)]
    | 8, _, _ => rfl
    | 9, _, _ => simp only [zc_md, up2_ne _ _ _ (show 8 ≠ 15 by decide)]
    | 10, _, _ => simp only [zc_md, up2_ne _ _ _ (show 9 ≠ 15 by decide)]
    | 11, _, _ => simp only [zc_md, up2_ne _ _ _ (show 10 ≠ 15 by decide)]
    | 12, _, _ => simp only [zc_md, up2_ne _ _ _ (show 11 ≠ 15 by decide)]
    | 13, _, _ => simp only [zc_md, up2_ne _ _ _ (show 12 ≠ 15 by decide)]
    | 14, _, _ => simp only [zc_md, up2_ne _ _ _ (show 13 ≠ 15 by decide)]
    | 15, _, _ => rfl
    | 16, _, g => exact absurd rfl g
    | 17, _, _ => simp only [zc_md, up2_ne _ _ _ (show 16 ≠ 15 by decide)]
    | 18, _, _ => simp only [zc_md, up2_ne _ _ _ (show 17 ≠ 15 by decide)]
    | 19, _, _ => simp only [zc_md, up2_ne _ _ _ (show 18 ≠ 15 by decide)]
    | 20, _, _ => simp only [zc_md, up2_ne _ _ _ (show 19 ≠ 15 by decide)]
    | 21, _, _ => simp only [zc_md, up2_ne _ _ _ (show 20 ≠ 15 by decide)]
    | 22, _, _ => simp only [zc_md, up2_ne _ _ _ (show 21 ≠ 15 by decide)]
    | 23, _, _ => simp only [zc_md, up2_ne _ _ _ (show 22 ≠ 15 by decide)]
    | 24, _, _ => simp only [zc_md, up2_ne _ _ _ (show 23 ≠ 15 by decide)]
    | 25, _, _ => simp only [zc_md, up2_ne _ _ _ (show 24 ≠ 15 by decide)]
    | 26, _, _ => simp only [zc_md, up2_ne _ _ _ (show 25 ≠ 15 by decide)]
    | 27, _, _ => simp only [zc_md, up2_ne _ _ _ (show 26 ≠ 15 by decide)]
    | 28, _, _ => simp only [zc_md, up2_ne _ _ _ (show 27 ≠ 15 by decide)]
    | 29, _, _ => simp only [zc_md, up2_ne _ _ _ (show 28 ≠ 15 by decide)]
    | 30, _, _ => simp only [zc_md, up2_ne _ _ _ (show 29 ≠ 15 by decide)]
    | 31, _, _ => simp only [zc_md, up2_ne _ _ _ (show 30 ≠ 15 by decide)]
    | j + 32, h, _ => exact absurd h (by omega)
theorem up_m16 {i : Nat} {v : Int32} : zx_up (zs b (B, F, (t, fr, lo, I, J))) (ma b 16) (.inl (0, 5, .inl (upd (I 16) i v))) = zs b (B, F, (t, fr, lo, up2 I 16 i v, J)) := by
  refine up_md 17 (by decide) ?_ (fun d h g => ?_)
  · simp only [zc_md, up2_at]; rfl
  · match d, h, g with
    | 0, _, _ => rfl
    | 1, _, _ => simp only [zc_md, up2_ne _ _ _ (show 0 ≠ 16 by decide)]
    | 2, _, _ => simp only [zc_md, up2_ne _ _ _ (show 1 ≠ 16 by decide)]
    | 3, _, _ => rfl
    | 4, _, _ => simp only [zc_md, up2_ne _ _ _ (show 3 ≠ 16 by decide)]
    | 5, _, _ => simp only [zc_md, up2_ne _ _ _ (show 4 ≠ 16 by decide)]
    | 6, _, _ => simp only [zc_md, up2_ne _ _ _ (show 5 ≠ 16 by decide)]
    | 7, _, _ => simp only [zc_md, up2_ne _ _ _ (show 6 ≠ 16 by decide)]
    | 8, _, _ => rfl
    | 9, _, _ => simp only [zc_md, up2_ne _ _ _ (show 8 ≠ 16 by decide)]
    | 10, _, _ => simp only [zc_md, up2_ne _ _ _ (show 9 ≠ 16 by decide)]
    | 11, _, _ => simp only [zc_md, up2_ne _ _ _ (show 10 ≠ 16 by decide)]
    | 12, _, _ => simp only [zc_md, up2_ne _ _ _ (show 11 ≠ 16 by decide)]
    | 13, _, _ => simp only [zc_md, up2_ne _ _ _ (show 12 ≠ 16 by decide)]
    | 14, _, _ => simp only [zc_md, up2_ne _ _ _ (show 13 ≠ 16 by decide)]
    | 15, _, _ => rfl
    | 16, _, _ => simp only [zc_md, up2_ne _ _ _ (show 15 ≠ 16 by decide)]
    | 17, _, g => exact absurd rfl g
    | 18, _, _ => simp only [zc_md, up2_ne _ _ _ (show 17 ≠ 16 by decide)]
    | 19, _, _ => simp only [zc_md, up2_ne _ _ _ (show 18 ≠ 16 by decide)]
    | 20, _, _ => simp only [zc_md, up2_ne _ _ _ (show 19 ≠ 16 by decide)]
    | 21, _, _ => simp only [zc_md, up2_ne _ _ _ (show 20 ≠ 16 by decide)]
    | 22, _, _ => simp only [zc_md, up2_ne _ _ _ (show 21 ≠ 16 by decide)]
    | 23, _, _ => simp only [zc_md, up2_ne _ _ _ (show 22 ≠ 16 by decide)]
    | 24, _, _ => simp only [zc_md, up2_ne _ _ _ (show 23 ≠ 16 by decide)]
    | 25, _, _ => simp only [zc_md, up2_ne _ _ _ (show 24 ≠ 16 by decide)]
    | 26, _, _ => simp only [zc_md, up2_ne _ _ _ (show 25 ≠ 16 by decide)]
    | 27, _, _ => simp only [zc_md, up2_ne _ _ _ (show 26 ≠ 16 by decide)]
    | 28, _, _ => simp only [zc_md, up2_ne _ _ _ (show 27 ≠ 16 by decide)]
    | 29, _, _ => simp only [zc_md, up2_ne _ _ _ (show 28 ≠ 16 by decide)]
    | 30, _, _ => simp only [zc_md, up2_ne _ _ _ (show 29 ≠ 16 by decide)]
    | 31, _, _ => simp only [zc_md, up2_ne _ _ _ (show 30 ≠ 16 by decide)]
    | j + 32, h, _ => exact absurd h (by omega)
theorem up_m17 {i : Nat} {v : Int32} : zx_up (zs b (B, F, (t, fr, lo, I, J))) (ma b 17) (.inl (0, 5, .inl (upd (I 17) i v))) = zs b (B, F, (t, fr, lo, up2 I 17 i v, J)) := by
  refine up_md 18 (by decide) ?_ (fun d h g => ?_)
  · simp only [zc_md, up2_at]; rfl
  · match d, h, g with
    | 0, _, _ => rfl
    | 1, _, _ => simp only [zc_md, up2_ne _ _ _ (show 0 ≠ 17 by decide)]
    | 2, _, _ => simp only [zc_md, up2_ne _ _ _ (show 1 ≠ 17 by decide)]
    | 3, _, _ => rfl
    | 4, _, _ => simp only [zc_md, up2_ne _ _ _ (show 3 ≠ 17 by decide)]
    | 5, _, _ => simp only [zc_md, up2_ne _ _ _ (show 4 ≠ 17 by decide)]
    | 6, _, _ => simp only [zc_md, up2_ne _ _ _ (show 5 ≠ 17 by decide)]
    | 7, _, _ => simp only [zc_md, up2_ne _ _ _ (show 6 ≠ 17 by decide)]
    | 8, _, _ => rfl
    | 9, _, _ => simp only [zc_md, up2_ne _ _ _ (show 8 ≠ 17 by decide)]
    | 10, _, _ => simp only [zc_md, up2_ne _ _ _ (show 9 ≠ 17 by decide)]
    | 11, _, _ => simp only [zc_md, up2_ne _ _ _ (show 10 ≠ 17 by decide)]
    | 12, _, _ => simp only [zc_md, up2_ne _ _ _ (show 11 ≠ 17 by decide)]
    | 13, _, _ => simp only [zc_md, up2_ne _ _ _ (show 12 ≠ 17 by decide)]
    | 14, _, _ => simp only [zc_md, up2_ne _ _ _ (show 13 ≠ 17 by decide)]
    | 15, _, _ => rfl
    | 16, _, _ => simp only [zc_md, up2_ne _ _ _ (show 15 ≠ 17 by decide)]
    | 17, _, _ => simp only [zc_md, up2_ne _ _ _ (show 16 ≠ 17 by decide)]
    | 18, _, g => exact absurd rfl g
    | 19, _, _ => simp only [zc_md, up2_ne _ _ _ (show 18 ≠ 17 by decide)]
    | 20, _, _ => simp only [zc_md, up2_ne _ _ _ (show 19 ≠ 17 by decide)]
    | 21, _, _ => simp only [zc_md, up2_ne _ _ _ (show 20 ≠ 17 by decide)]
    | 22, _, _ => simp only [zc_md, up2_ne _ _ _ (show 21 ≠ 17 by decide)]
    | 23, _, _ => simp only [zc_md, up2_ne _ _ _ (show 22 ≠ 17 by decide)]
    | 24, _, _ => simp only [zc_md, up2_ne _ _ _ (show 23 ≠ 17 by decide)]
    | 25, _, _ => simp only [zc_md, up2_ne _ _ _ (show 24 ≠ 17 by decide)]
    | 26, _, _ => simp only [zc_md, up2_ne _ _ _ (show 25 ≠ 17 by decide)]
    | 27, _, _ => simp only [zc_md, up2_ne _ _ _ (show 26 ≠ 17 by decide)]
    | 28, _, _ => simp only [zc_md, up2_ne _ _ _ (show 27 ≠ 17 by decide)]
    | 29, _, _ => simp only [zc_md, up2_ne _ _ _ (show 28 ≠ 17 by decide)]
    | 30, _, _ => simp only [zc_md, up2_ne _ _ _ (show 29 ≠ 17 by decide)]
    | 31, _, _ => simp only [zc_md, up2_ne _ _ _ (show 30 ≠ 17 by decide)]
    | j + 32, h, _ => exact absurd h (by omega)
theorem up_m18 {i : Nat} {v : Int32} : zx_up (zs b (B, F, (t, fr, lo, I, J))) (ma b 18) (.inl (2, 10, .inl (upd (I 18) i v))) = zs b (B, F, (t, fr, lo, up2 I 18 i v, J)) := by
  refine up_md 19 (by decide) ?_ (fun d h g => ?_)
  · simp only [zc_md, up2_at]; rfl
  · match d, h, g with
    | 0, _, _ => rfl
    | 1, _, _ => simp only [zc_md, up2_ne _ _ _ (show 0 ≠ 18 by decide)]
    | 2, _, _ => simp only [zc_md, up2_ne _ _ _ (show 1 ≠ 18 by decide)]
    | 3, _, _ => rfl
    | 4, _, _ => simp only [zc_md, up2_ne _ _ _ (show 3 ≠ 18 by decide)]
    | 5, _, _ => simp only [zc_md, up2_ne _ _ _ (show 4 ≠ 18 by decide)]
    | 6, _, _ => simp only [zc_md, up2_ne _ _ _ (show 5 ≠ 18 by decide)]
    | 7, _, _ => simp only [zc_md, up2_ne _ _ _ (show 6 ≠ 18 by decide)]
    | 8, _, _ => rfl
    | 9, _, _ => simp only [zc_md, up2_ne _ _ _ (show 8 ≠ 18 by decide)]
    | 10, _, _ => simp only [zc_md, up2_ne _ _ _ (show 9 ≠ 18 by decide)]
    | 11, _, _ => simp only [zc_md, up2_ne _ _ _ (show 10 ≠ 18 by decide)]
    | 12, _, _ => simp only [zc_md, up2_ne _ _ _ (show 11 ≠ 18 by decide)]
    | 13, _, _ => simp only [zc_md, up2_ne _ _ _ (show 12 ≠ 18 by decide)]
    | 14, _, _ => simp only [zc_md, up2_ne _ _ _ (show 13 ≠ 18 by decide)]
    | 15, _, _ => rfl
    | 16, _, _ => simp only [zc_md, up2_ne _ _ _ (show 15 ≠ 18 by decide)]
    | 17, _, _ => simp only [zc_md, up2_ne _ _ _ (show 16 ≠ 18 by decide)]
    | 18, _, _ => simp only [zc_md, up2_ne _ _ _ (show 17 ≠ 18 by decide)]
    | 19, _, g => exact absurd rfl g
    | 20, _, _ => simp only [zc_md, up2_ne _ _ _ (show 19 ≠ 18 by decide)]
    | 21, _, _ => simp only [zc_md, up2_ne _ _ _ (show 20 ≠ 18 by decide)]
    | 22, _, _ => simp only [zc_md, up2_ne _ _ _ (show 21 ≠ 18 by decide)]
    | 23, _, _ => simp only [zc_md, up2_ne _ _ _ (show 22 ≠ 18 by decide)]
    | 24, _, _ => simp only [zc_md, up2_ne _ _ _ (show 23 ≠ 18 by decide)]
    | 25, _, _ => simp only [zc_md, up2_ne _ _ _ (show 24 ≠ 18 by decide)]
    | 26, _, _ => simp only [zc_md, up2_ne _ _ _ (show 25 ≠ 18 by decide)]
    | 27, _, _ => simp only [zc_md, up2_ne _ _ _ (show 26 ≠ 18 by decide)]
    | 28, _, _ => simp only [zc_md, up2_ne _ _ _ (show 27 ≠ 18 by decide)]
    | 29, _, _ => simp only [zc_md, up2_ne _ _ _ (show 28 ≠ 18 by decide)]
    | 30, _, _ => simp only [zc_md, up2_ne _ _ _ (show 29 ≠ 18 by decide)]
    | 31, _, _ => simp only [zc_md, up2_ne _ _ _ (show 30 ≠ 18 by decide)]
    | j + 32, h, _ => exact absurd h (by omega)
theorem up_m19 {i : Nat} {v : Int32} : zx_up (zs b (B, F, (t, fr, lo, I, J))) (ma b 19) (.inl (0, 10, .inl (upd (I 19) i v))) = zs b (B, F, (t, fr, lo, up2 I 19 i v, J)) := by
  refine up_md 20 (by decide) ?_ (fun d h g => ?_)
  · simp only [zc_md, up2_at]; rfl
  · match d, h, g with
    | 0, _, _ => rfl
    | 1, _, _ => simp only [zc_md, up2_ne _ _ _ (show 0 ≠ 19 by decide)]
    | 2, _, _ => simp only [zc_md, up2_ne _ _ _ (show 1 ≠ 19 by decide)]
    | 3, _, _ => rfl
    | 4, _, _ => simp only [zc_md, up2_ne _ _ _ (show 3 ≠ 19 by decide)]
    | 5, _, _ => simp only [zc_md, up2_ne _ _ _ (show 4 ≠ 19 by decide)]
    | 6, _, _ => simp only [zc_md, up2_ne _ _ _ (show 5 ≠ 19 by decide)]
    | 7, _, _ => simp only [zc_md, up2_ne _ _ _ (show 6 ≠ 19 by decide)]
    | 8, _, _ => rfl
    | 9, _, _ => simp only [zc_md, up2_ne _ _ _ (show 8 ≠ 19 by decide)]
    | 10, _, _ => simp only [zc_md, up2_ne _ _ _ (show 9 ≠ 19 by decide)]
    | 11, _, _ => simp only [zc_md, up2_ne _ _ _ (show 10 ≠ 19 by decide)]
    | 12, _, _ => simp only [zc_md, up2_ne _ _ _ (show 11 ≠ 19 by decide)]
    | 13, _, _ => simp only [zc_md, up2_ne _ _ _ (show 12 ≠ 19 by decide)]
    | 14, _, _ => simp only [zc_md, up2_ne _ _ _ (show 13 ≠ 19 by decide)]
    | 15, _, _ => rfl
    | 16, _, _ => simp only [zc_md, up2_ne _ _ _ (show 15 ≠ 19 by decide)]
    | 17, _, _ => simp only [zc_md, up2_ne _ _ _ (show 16 ≠ 19 by decide)]
    | 18, _, _ => simp only [zc_md, up2_ne _ _ _ (show 17 ≠ 19 by decide)]
    | 19, _, _ => simp only [zc_md, up2_ne _ _ _ (show 18 ≠ 19 by decide)]
    | 20, _, g => exact absurd rfl g
    | 21, _, _ => simp only [zc_md, up2_ne _ _ _ (show 20 ≠ 19 by decide)]
    | 22, _, _ => simp only [zc_md, up2_ne _ _ _ (show 21 ≠ 19 by decide)]
    | 23, _, _ => simp only [zc_md, up2_ne _ _ _ (show 22 ≠ 19 by decide)]
    | 24, _, _ => simp only [zc_md, up2_ne _ _ _ (show 23 ≠ 19 by decide)]
    | 25, _, _ => simp only [zc_md, up2_ne _ _ _ (show 24 ≠ 19 by decide)]
    | 26, _, _ => simp only [zc_md, up2_ne _ _ _ (show 25 ≠ 19 by decide)]
    | 27, _, _ => simp only [zc_md, up2_ne _ _ _ (show 26 ≠ 19 by decide)]
    | 28, _, _ => simp only [zc_md, up2_ne _ _ _ (show 27 ≠ 19 by decide)]
    | 29, _, _ => simp only [zc_md, up2_ne _ _ _ (show 28 ≠ 19 by decide)]
    | 30, _, _ => simp only [zc_md, up2_ne _ _ _ (show 29 ≠ 19 by decide)]
    | 31, _, _ => simp only [zc_md, up2_ne _ _ _ (show 30 ≠ 19 by decide)]
    | j + 32, h, _ => exact absurd h (by omega)
theorem up_m20 {i : Nat} {v : Int32} : zx_up (zs b (B, F, (t, fr, lo, I, J))) (ma b 20) (.inl (0, 10, .inl (upd (I 20) i v))) = zs b (B, F, (t, fr, lo, up2 I 20 i v, J)) := by
  refine up_md 21 (by decide) ?_ (fun d h g => ?_)
  · simp only [zc_md, up2_at]; rfl
  · match d, h, g with
    | 0, _, _ => rfl
    | 1, _, _ => simp only [zc_md, up2_ne _ _ _ (show 0 ≠ 20 by decide)]
    | 2, _, _ => simp only [zc_md, up2_ne _ _ _ (show 1 ≠ 20 by decide)]
    | 3, _, _ => rfl
    | 4, _, _ => simp only [zc_md, up2_ne _ _ _ (show 3 ≠ 20 by decide)]
    | 5, _, _ => simp only [zc_md, up2_ne _ _ _ (show 4 ≠ 20 by decide)]
    | 6, _, _ => simp only [zc_md, up2_ne _ _ _ (show 5 ≠ 20 by decide)]
    | 7, _, _ => simp only [zc_md, up2_ne _ _ _ (show 6 ≠ 20 by decide)]
    | 8, _, _ => rfl
    | 9, _, _ => simp only [zc_md, up2_ne _ _ _ (show 8 ≠ 20 by decide)]
    | 10, _, _ => simp only [zc_md, up2_ne _ _ _ (show 9 ≠ 20 by decide)]
    | 11, _, _ => simp only [zc_md, up2_ne _ _ _ (show 10 ≠ 20 by decide)]
    | 12, _, _ => simp only [zc_md, up2_ne _ _ _ (show 11 ≠ 20 by decide)]
    | 13, _, _ => simp only [zc_md, up2_ne _ _ _ (show 12 ≠ 20 by decide)]
    | 14, _, _ => simp only [zc_md, up2_ne _ _ _ (show 13 ≠ 20 by decide)]
    | 15, _, _ => rfl
    | 16, _, _ => simp only [zc_md, up2_ne _ _ _ (show 15 ≠ 20 by decide)]
    | 17, _, _ => simp only [zc_md, up2_ne _ _ _ (show 16 ≠ 20 by decide)]
    | 18, _, _ => simp only [zc_md, up2_ne _ _ _ (show 17 ≠ 20 by decide)]
    | 19, _, _ => simp only [zc_md, up2_ne _ _ _ (show 18 ≠ 20 by decide)]
    | 20, _, _ => simp only [zc_md, up2_ne _ _ _ (show 19 ≠ 20 by decide)]
    | 21, _, g => exact absurd rfl g
    | 22, _, _ => simp only [zc_md, up2_ne _ _ _ (show 21 ≠ 20 by decide)]
    | 23, _, _ => simp only [zc_md, up2_ne _ _ _ (show 22 ≠ 20 by decide)]
    | 24, _, _ => simp only [zc_md, up2_ne _ _ _ (show 23 ≠ 20 by decide)]
    | 25, _, _ => simp only [zc_md, up2_ne _ _ _ (show 24 ≠ 20 by decide)]
    | 26, _, _ => simp only [zc_md, up2_ne _ _ _ (show 25 ≠ 20 by decide)]
    | 27, _, _ => simp only [zc_md, up2_ne _ _ _ (show 26 ≠ 20 by decide)]
    | 28, _, _ => simp only [zc_md, up2_ne _ _ _ (show 27 ≠ 20 by decide)]
    | 29, _, _ => simp only [zc_md, up2_ne _ _ _ (show 28 ≠ 20 by decide)]
    | 30, _, _ => simp only [zc_md, up2_ne _ _ _ (show 29 ≠ 20 by decide)]
    | 31, _, _ => simp only [zc_md, up2_ne _ _ _ (show 30 ≠ 20 by decide)]
    | j + 32, h, _ => exact absurd h (by omega)
theorem up_m21 {i : Nat} {v : Int32} : zx_up (zs b (B, F, (t, fr, lo, I, J))) (ma b 21) (.inl (0, 10, .inl (upd (I 21) i v))) = zs b (B, F, (t, fr, lo, up2 I 21 i v, J)) := by
  refine up_md 22 (by decide) ?_ (fun d h g => ?_)
  · simp only [zc_md, up2_at]; rfl
  · match d, h, g with
    | 0, _, _ => rfl
    | 1, _, _ => simp only [zc_md, up2_ne _ _ _ (show 0 ≠ 21 by decide)]
    | 2, _, _ => simp only [zc_md, up2_ne _ _ _ (show 1 ≠ 21 by decide)]
    | 3, _, _ => rfl
    | 4, _, _ => simp only [zc_md, up2_ne _ _ _ (show 3 ≠ 21 by decide)]
    | 5, _, _ => simp only [zc_md, up2_ne _ _ _ (show 4 ≠ 21 by decide)]
    | 6, _, _ => simp only [zc_md, up2_ne _ _ _ (show 5 ≠ 21 by decide)]
    | 7, _, _ => simp only [zc_md, up2_ne _ _ _ (show 6 ≠ 21 by decide)]
    | 8, _, _ => rfl
    | 9, _, _ => simp only [zc_md, up2_ne _ _ _ (show 8 ≠ 21 by decide)]
    | 10, _, _ => simp only [zc_md, up2_ne _ _ _ (show 9 ≠ 21 by decide)]
    | 11, _, _ => simp only [zc_md, up2_ne _ _ _ (show 10 ≠ 21 by decide)]
    | 12, _, _ => simp only [zc_md, up2_ne _ _ _ (show 11 ≠ 21 by decide)]
    | 13, _, _ => simp only [zc_md, up2_ne _ _ _ (show 12 ≠ 21 by decide)]
    | 14, _, _ => simp only [zc_md, up2_ne _ _ _ (show 13 ≠ 21 by decide)]
    | 15, _, _ => rfl
    | 16, _, _ => simp only [zc_md, up2_ne _ _ _ (show 15 ≠ 21 by decide)]
    | 17, _, _ => simp only [zc_md, up2_ne _ _ _ (show 16 ≠ 21 by decide)]
    | 18, _, _ => simp only [zc_md, up2_ne _ _ _ (show 17 ≠ 21 by decide)]
    | 19, _, _ => simp only [zc_md, up2_ne _ _ _ (show 18 ≠ 21 by decide)]
    | 20, _, _ => simp only [zc_md, up2_ne _ _ _ (show 19 ≠ 21 by decide)]
    | 21, _, _ => simp only [zc_md, up2_ne _ _ _ (show 20 ≠ 21 by decide)]
    | 22, _, g => exact absurd rfl g
    | 23, _, _ => simp only [zc_md, up2_ne _ _ _ (show 22 ≠ 21 by decide)]
    | 24, _, _ => simp only [zc_md, up2_ne _ _ _ (show 23 ≠ 21 by decide)]
    | 25, _, _ => simp only [zc_md, up2_ne _ _ _ (show 24 ≠ 21 by decide)]
    | 26, _, _ => simp only [zc_md, up2_ne _ _ _ (show 25 ≠ 21 by decide)]
    | 27, _, _ => simp only [zc_md, up2_ne _ _ _ (show 26 ≠ 21 by decide)]
    | 28, _, _ => simp only [zc_md, up2_ne _ _ _ (show 27 ≠ 21 by decide)]
    | 29, _, _ => simp only [zc_md, up2_ne _ _ _ (show 28 ≠ 21 by decide)]
    | 30, _, _ => simp only [zc_md, up2_ne _ _ _ (show 29 ≠ 21 by decide)]
    | 31, _, _ => simp only [zc_md, up2_ne _ _ _ (show 30 ≠ 21 by decide)]
    | j + 32, h, _ => exact absurd h (by omega)
theorem up_m22 {i : Nat} {v : Int32} : zx_up (zs b (B, F, (t, fr, lo, I, J))) (ma b 22) (.inl (0, 10, .inl (upd (I 22) i v))) = zs b (B, F, (t, fr, lo, up2 I 22 i v, J)) := by
  refine up_md 23 (by decide) ?_ (fun d h g => ?_)
  · simp only [zc_md, up2_at]; rfl
  · match d, h, g with
    | 0, _, _ => rfl
    | 1, _, _ => simp only [zc_md, up2_ne _ _ _ (show 0 ≠ 22 by decide)]
    | 2, _, _ => simp only [zc_md, up2_ne _ _ _ (show 1 ≠ 22 by decide)]
    | 3, _, _ => rfl
    | 4, _, _ => simp only [zc_md, up2_ne _ _ _ (show 3 ≠ 22 by decide)]
    | 5, _, _ => simp only [zc_md, up2_ne _ _ _ (show 4 ≠ 22 by decide)]
    | 6, _, _ => simp only [zc_md, up2_ne _ _ _ (show 5 ≠ 22 by decide)]
    | 7, _, _ => simp only [zc_md, up2_ne _ _ _ (show 6 ≠ 22 by decide)]
    | 8, _, _ => rfl
    | 9, _, _ => simp only [zc_md, up2_ne _ _ _ (show 8 ≠ 22 by decide)]
    | 10, _, _ => simp only [zc_md, up2_ne _ _ _ (show 9 ≠ 22 by decide)]
    | 11, _, _ => simp only [zc_md, up2_ne _ _ _ (show 10 ≠ 22 by decide)]
    | 12, _, _ => simp only [zc_md, up2_ne _ _ _ (show 11 ≠ 22 by decide)]
    | 13, _, _ => simp only [zc_md, up2_ne _ _ _ (show 12 ≠ 22 by decide)]
    | 14, _, _ => simp only [zc_md, up2_ne _ _ _ (show 13 ≠ 22 by decide)]
    | 15, _, _ => rfl
    | 16, _, _ => simp only [zc_md, up2_ne _ _ _ (show 15 ≠ 22 by decide)]
    | 17, _, _ => simp only [zc_md, up2_ne _ _ _ (show 16 ≠ 22 by decide)]
    | 18, _, _ => simp only [zc_md, up2_ne _ _ _ (show 17 ≠ 22 by decide)]
    | 19, _, _ => simp only [zc_md, up2_ne _ _ _ (show 18 ≠ 22 by decide)]
    | 20, _, _ => simp only [zc_md, up2_ne _ _ _ (show 19 ≠ 22 by decide)]
    | 21, _, _ => simp only [zc_md, up2_ne _ _ _ (show 20 ≠ 22 by decide)]
    | 22, _, _ => simp only [zc_md, up2_ne _ _ _ (show 21 ≠ 22 by decide)]
    | 23, _, g => exact absurd rfl g
    | 24, _, _ => simp only [zc_md, up2_ne _ _ _ (show 23 ≠ 22 by decide)]
    | 25, _, _ => simp only [zc_md, up2_ne _ _ _ (show 24 ≠ 22 by decide)]
    | 26, _, _ => simp only [zc_md, up2_ne _ _ _ (show 25 ≠ 22 by decide)]
    | 27, _, _ => simp only [zc_md, up2_ne _ _ _ (show 26 ≠ 22 by decide)]
    | 28, _, _ => simp only [zc_md, up2_ne _ _ _ (show 27 ≠ 22 by decide)]
    | 29, _, _ => simp only [zc_md, up2_ne _ _ _ (show 28 ≠ 22 by decide)]
    | 30, _, _ => simp only [zc_md, up2_ne _ _ _ (show 29 ≠ 22 by decide)]
    | 31, _, _ => simp only [zc_md, up2_ne _ _ _ (show 30 ≠ 22 by decide)]
    | j + 32, h, _ => exact absurd h (by omega)
theorem up_m23 {i : Nat} {v : Int32} : zx_up (zs b (B, F, (t, fr, lo, I, J))) (ma b 23) (.inl (0, 10, .inl (upd (I 23) i v))) = zs b (B, F, (t, fr, lo, up2 I 23 i v, J)) := by
  refine up_md 24 (by decide) ?_ (fun d h g => ?_)
  · simp only [zc_md, up2_at]; rfl
  · match d, h, g with
    | 0, _, _ => rfl
    | 1, _, _ => simp only [zc_md, up2_ne _ _ _ (show 0 ≠ 23 by decide)]
    | 2, _, _ => simp only [zc_md, up2_ne _ _ _ (show 1 ≠ 23 by decide)]
    | 3, _, _ => rfl
    | 4, _, _ => simp only [zc_md, up2_ne _ _ _ (show 3 ≠ 23 by decide)]
    | 5, _, _ => simp only [zc_md, up2_ne _ _ _ (show 4 ≠ 23 by decide)]
    | 6, _, _ => simp only [zc_md, up2_ne _ _ _ (show 5 ≠ 23 by decide)]
    | 7, _, _ => simp only [zc_md, up2_ne _ _ _ (show 6 ≠ 23 by decide)]
    | 8, _, _ => rfl
    | 9, _, _ => simp only [zc_md, up2_ne _ _ _ (show 8 ≠ 23 by decide)]
    | 10, _, _ => simp only [zc_md, up2_ne _ _ _ (show 9 ≠ 23 by decide)]
    | 11, _, _ => simp only [zc_md, up2_ne _ _ _ (show 10 ≠ 23 by decide)]
    | 12, _, _ => simp only [zc_md, up2_ne _ _ _ (show 11 ≠ 23 by decide)]
    | 13, _, _ => simp only [zc_md, up2_ne _ _ _ (show 12 ≠ 23 by decide)]
    | 14, _, _ => simp only [zc_md, up2_ne _ _ _ (show 13 ≠ 23 by decide)]
    | 15, _, _ => rfl
    | 16, _, _ => simp only [zc_md, up2_ne _ _ _ (show 15 ≠ 23 by decide)]
    | 17, _, _ => simp only [zc_md, up2_ne _ _ _ (show 16 ≠ 23 by decide)]
    | 18, _, _ => simp only [zc_md, up2_ne _ _ _ (show 17 ≠ 23 by decide)]
    | 19, _, _ => simp only [zc_md, up2_ne _ _ _ (show 18 ≠ 23 by decide)]
    | 20, _, _ => simp only [zc_md, up2_ne _ _ _ (show 19 ≠ 23 by decide)]
    | 21, _, _ => simp only [zc_md, up2_ne _ _ _ (show 20 ≠ 23 by decide)]
    | 22, _, _ => simp only [zc_md, up2_ne _ _ _ (show 21 ≠ 23 by decide)]
    | 23, _, _ => simp only [zc_md, up2_ne _ _ _ (show 22 ≠ 23 by decide)]
    | 24, _, g => exact absurd rfl g
    | 25, _, _ => simp only [zc_md, up2_ne _ _ _ (show 24 ≠ 23 by decide)]
    | 26, _, _ => simp only [zc_md, up2_ne _ _ _ (show 25 ≠ 23 by decide)]
    | 27, _, _ => simp only [zc_md, up2_ne _ _ _ (show 26 ≠ 23 by decide)]
    | 28, _, _ => simp only [zc_md, up2_ne _ _ _ (show 27 ≠ 23 by decide)]
    | 29, _, _ => simp only [zc_md, up2_ne _ _ _ (show 28 ≠ 23 by decide)]
    | 30, _, _ => simp only [zc_md, up2_ne _ _ _ (show 29 ≠ 23 by decide)]
    | 31, _, _ => simp only [zc_md, up2_ne _ _ _ (show 30 ≠ 23 by decide)]
    | j + 32, h, _ => exact absurd h (by omega)
theorem up_m24 {i : Nat} {v : Int32} : zx_up (zs b (B, F, (t, fr, lo, I, J))) (ma b 24) (.inl (0, 10, .inl (upd (I 24) i v))) = zs b (B, F, (t, fr, lo, up2 I 24 i v, J)) := by
  refine up_md 25 (by decide) ?_ (fun d h g => ?_)
  · simp only [zc_md, up2_at]; rfl
  · match d, h, g with
    | 0, _, _ => rfl
    | 1, _, _ => simp only [zc_md, up2_ne _ _ _ (show 0 ≠ 24 by decide)]
    | 2, _, _ => simp only [zc_md, up2_ne _ _ _ (show 1 ≠ 24 by decide)]
    | 3, _, _ => rfl
    | 4, _, _ => simp only [zc_md, up2_ne _ _ _ (show 3 ≠ 24 by decide)]
    | 5, _, _ => simp only [zc_md, up2_ne _ _ _ (show 4 ≠ 24 by decide)]
    | 6, _, _ => simp only [zc_md, up2_ne _ _ _ (show 5 ≠ 24 by decide)]
    | 7, _, _ => simp only [zc_md, up2_ne _ _ _ (show 6 ≠ 24 by decide)]
    | 8, _, _ => rfl
    | 9, _, _ => simp only [zc_md, up2_ne _ _ _ (show 8 ≠ 24 by decide)]
    | 10, _, _ => simp only [zc_md, up2_ne _ _ _ (show 9 ≠ 24 by decide)]
    | 11, _, _ => simp only [zc_md, up2_ne _ _ _ (show 10 ≠ 24 by decide)]
    | 12, _, _ => simp only [zc_md, up2_ne _ _ _ (show 11 ≠ 24 by decide)]
    | 13, _, _ => simp only [zc_md, up2_ne _ _ _ (show 12 ≠ 24 by decide)]
    | 14, _, _ => simp only [zc_md, up2_ne _ _ _ (show 13 ≠ 24 by decide)]
    | 15, _, _ => rfl
    | 16, _, _ => simp only [zc_md, up2_ne _ _ _ (show 15 ≠ 24 by decide)]
    | 17, _, _ => simp only [zc_md, up2_ne _ _ _ (show 16 ≠ 24 by decide)]
    | 18, _, _ => simp only [zc_md, up2_ne _ _ _ (show 17 ≠ 24 by decide)]
    | 19, _, _ => simp only [zc_md, up2_ne _ _ _ (show 18 ≠ 24 by decide)]
    | 20, _, _ => simp only [zc_md, up2_ne _ _ _ (show 19 ≠ 24 by decide)]
    | 21, _, _ => simp only [zc_md, up2_ne _ _ _ (show 20 ≠ 24 by decide)]
    | 22, _, _ => simp only [zc_md, up2_ne _ _ _ (show 21 ≠ 24 by decide)]
    | 23, _, _ => simp only [zc_md, up2_ne _ _ _ (show 22 ≠ 24 by decide)]
    | 24, _, _ => simp only [zc_md, up2_ne _ _ _ (show 23 ≠ 24 by decide)]
    | 25, _, g => exact absurd rfl g
    | 26, _, _ => simp only [zc_md, up2_ne _ _ _ (show 25 ≠ 24 by decide)]
    | 27, _, _ => simp only [zc_md, up2_ne _ _ _ (show 26 ≠ 24 by decide)]
    | 28, _, _ => simp only [zc_md, up2_ne _ _ _ (show 27 ≠ 24 by decide)]
    | 29, _, _ => simp only [zc_md, up2_ne _ _ _ (show 28 ≠ 24 by decide)]
    | 30, _, _ => simp only [zc_md, up2_ne _ _ _ (show 29 ≠ 24 by decide)]
    | 31, _, _ => simp only [zc_md, up2_ne _ _ _ (show 30 ≠ 24 by decide)]
    | j + 32, h, _ => exact absurd h (by omega)
theorem up_m25 {i : Nat} {v : Int32} : zx_up (zs b (B, F, (t, fr, lo, I, J))) (ma b 25) (.inl (2, 10, .inl (upd (I 25) i v))) = zs b (B, F, (t, fr, lo, up2 I 25 i v, J)) := by
  refine up_md 26 (by decide) ?_ (fun d h g => ?_)
  · simp only [zc_md, up2_at]; rfl
  · match d, h, g with
    | 0, _, _ => rfl
    | 1, _, _ => simp only [zc_md, up2_ne _ _ _ (show 0 ≠ 25 by decide)]
    | 2, _, _ => simp only [zc_md, up2_ne _ _ _ (show 1 ≠ 25 by decide)]
    | 3, _, _ => rfl
    | 4, _, _ => simp only [zc_md, up2_ne _ _ _ (show 3 ≠ 25 by decide)]
    | 5, _, _ => simp only [zc_md, up2_ne _ _ _ (show 4 ≠ 25 by decide)]
    | 6, _, _ => simp only [zc_md, up2_ne _ _ _ (show 5 ≠ 25 by decide)]
    | 7, _, _ => simp only [zc_md, up2_ne _ _ _ (show 6 ≠ 25 by decide)]
    | 8, _, _ => rfl
    | 9, _, _ => simp only [zc_md, up2_ne _ _ _ (show 8 ≠ 25 by decide)]
    | 10, _, _ => simp only [zc_md, up2_ne _ _ _ (show 9 ≠ 25 by decide)]
    | 11, _, _ => simp only [zc_md, up2_ne _ _ _ (show 10 ≠ 25 by decide)]
    | 12, _, _ => simp only [zc_md, up2_ne _ _ _ (show 11 ≠ 25 by decide)]
    | 13, _, _ => simp only [zc_md, up2_ne _ _ _ (show 12 ≠ 25 by decide)]
    | 14, _, _ => simp only [zc_md, up2_ne _ _ _ (show 13 ≠ 25 by decide)]
    | 15, _, _ => rfl
    | 16, _, _ => simp only [zc_md, up2_ne _ _ _ (show 15 ≠ 25 by decide)]
    | 17, _, _ => simp only [zc_md, up2_ne _ _ _ (show 16 ≠ 25 by decide)]
    | 18, _, _ => simp only [zc_md, up2_ne _ _ _ (show 17 ≠ 25 by decide)]
    | 19, _, _ => simp only [zc_md, up2_ne _ _ _ (show 18 ≠ 25 by decide)]
    | 20, _, _ => simp only [zc_md, up2_ne _ _ _ (show 19 ≠ 25 by decide)]
    | 21, _, _ => simp only [zc_md, up2_ne _ _ _ (show 20 ≠ 25 by decide)]
    | 22, _, _ => simp only [zc_md, up2_ne _ _ _ (show 21 ≠ 25 by decide)]
    | 23, _, _ => simp only [zc_md, up2_ne _ _ _ (show 22 ≠ 25 by decide)]
    | 24, _, _ => simp only [zc_md, up2_ne _ _ _ (show 23 ≠ 25 by decide)]
    | 25, _, _ => simp only [zc_md, up2_ne _ _ _ (show 24 ≠ 25 by decide)]
    | 26, _, g => exact absurd rfl g
    | 27, _, _ => simp only [zc_md, up2_ne _ _ _ (show 26 ≠ 25 by decide)]
    | 28, _, _ => simp only [zc_md, up2_ne _ _ _ (show 27 ≠ 25 by decide)]
    | 29, _, _ => simp only [zc_md, up2_ne _ _ _ (show 28 ≠ 25 by decide)]
    | 30, _, _ => simp only [zc_md, up2_ne _ _ _ (show 29 ≠ 25 by decide)]
    | 31, _, _ => simp only [zc_md, up2_ne _ _ _ (show 30 ≠ 25 by decide)]
    | j + 32, h, _ => exact absurd h (by omega)
theorem up_m26 {i : Nat} {v : Int32} : zx_up (zs b (B, F, (t, fr, lo, I, J))) (ma b 26) (.inl (0, 10, .inl (upd (I 26) i v))) = zs b (B, F, (t, fr, lo, up2 I 26 i v, J)) := by
  refine up_md 27 (by decide) ?_ (fun d h g => ?_)
  · simp only [zc_md, up2_at]; rfl
  · match d, h, g with
    | 0, _, _ => rfl
    | 1, _, _ => simp only [zc_md, up2_ne _ _ _ (show 0 ≠ 26 by decide)]
    | 2, _, _ => simp only [zc_md, up2_ne _ _ _ (show 1 ≠ 26 by decide)]
    | 3, _, _ => rfl
    | 4, _, _ => simp only [zc_md, up2_ne _ _ _ (show 3 ≠ 26 by decide)]
    | 5, _, _ => simp only [zc_md, up2_ne _ _ _ (show 4 ≠ 26 by decide)]
    | 6, _, _ => simp only [zc_md, up2_ne _ _ _ (show 5 ≠ 26 by decide)]
    | 7, _, _ => simp only [zc_md, up2_ne _ _ _ (show 6 ≠ 26 by decide)]
    | 8, _, _ => rfl
    | 9, _, _ => simp only [zc_md, up2_ne _ _ _ (show 8 ≠ 26 by decide)]
    | 10, _, _ => simp only [zc_md, up2_ne _ _ _ (show 9 ≠ 26 by decide)]
    | 11, _, _ => simp only [zc_md, up2_ne _ _ _ (show 10 ≠ 26 by decide)]
    | 12, _, _ => simp only [zc_md, up2_ne _ _ _ (show 11 ≠ 26 by decide)]
    | 13, _, _ => simp only [zc_md, up2_ne _ _ _ (show 12 ≠ 26 by decide)]
    | 14, _, _ => simp only [zc_md, up2_ne _ _ _ (show 13 ≠ 26 by decide)]
    | 15, _, _ => rfl
    | 16, _, _ => simp only [zc_md, up2_ne _ _ _ (show 15 ≠ 26 by decide)]
    | 17, _, _ => simp only [zc_md, up2_ne _ _ _ (show 16 ≠ 26 by decide)]
    | 18, _, _ => simp only [zc_md, up2_ne _ _ _ (show 17 ≠ 26 by decide)]
    | 19, _, _ => simp only [zc_md, up2_ne _ _ _ (show 18 ≠ 26 by decide)]
    | 20, _, _ => simp only [zc_md, up2_ne _ _ _ (show 19 ≠ 26 by decide)]
    | 21, _, _ => simp only [zc_md, up2_ne _ _ _ (show 20 ≠ 26 by decide)]
    | 22, _, _ => simp only [zc_md, up2_ne _ _ _ (show 21 ≠ 26 by decide)]
    | 23, _, _ => simp only [zc_md, up2_ne _ _ _ (show 22 ≠ 26 by decide)]
    | 24, _, _ => simp only [zc_md, up2_ne _ _ _ (show 23 ≠ 26 by decide)]
    | 25, _, _ => simp only [zc_md, up2_ne _ _ _ (show 24 ≠ 26 by decide)]
    | 26, _, _ => simp only [zc_md, up2_ne _ _ _ (show 25 ≠ 26 by decide)]
    | 27, _, g => exact absurd rfl g
    | 28, _, _ => simp only [zc_md, up2_ne _ _ _ (show 27 ≠ 26 by decide)]
    | 29, _, _ => simp only [zc_md, up2_ne _ _ _ (show 28 ≠ 26 by decide)]
    | 30, _, _ => simp only [zc_md, up2_ne _ _ _ (show 29 ≠ 26 by decide)]
    | 31, _, _ => simp only [zc_md, up2_ne _ _ _ (show 30 ≠ 26 by decide)]
    | j + 32, h, _ => exact absurd h (by omega)
theorem up_m27 {i : Nat} {v : Int32} : zx_up (zs b (B, F, (t, fr, lo, I, J))) (ma b 27) (.inl (0, 490, .inl (upd (I 27) i v))) = zs b (B, F, (t, fr, lo, up2 I 27 i v, J)) := by
  refine up_md 28 (by decide) ?_ (fun d h g => ?_)
  · simp only [zc_md, up2_at]; rfl
  · match d, h, g with
    | 0, _, _ => rfl
    | 1, _, _ => simp only [zc_md, up2_ne _ _ _ (show 0 ≠ 27 by decide)]
    | 2, _, _ => simp only [zc_md, up2_ne _ _ _ (show 1 ≠ 27 by decide)]
    | 3, _, _ => rfl
    | 4, _, _ => simp only [zc_md, up2_ne _ _ _ (show 3 ≠ 27 by decide)]
    | 5, _, _ => simp only [zc_md, up2_ne _ _ _ (show 4 ≠ 27 by decide)]
    | 6, _, _ => simp only [zc_md, up2_ne _ _ _ (show 5 ≠ 27 by decide)]
    | 7, _, _ => simp only [zc_md, up2_ne _ _ _ (show 6 ≠ 27 by decide)]
    | 8, _, _ => rfl
    | 9, _, _ => simp only [zc_md, up2_ne _ _ _ (show 8 ≠ 27 by decide)]
    | 10, _, _ => simp only [zc_md, up2_ne _ _ _ (show 9 ≠ 27 by decide)]
    | 11, _, _ => simp only [zc_md, up2_ne _ _ _ (show 10 ≠ 27 by decide)]
    | 12, _, _ => simp only [zc_md, up2_ne _ _ _ (show 11 ≠ 27 by decide)]
    | 13, _, _ => simp only [zc_md, up2_ne _ _ _ (show 12 ≠ 27 by decide)]
    | 14, _, _ => simp only [zc_md, up2_ne _ _ _ (show 13 ≠ 27 by decide)]
    | 15, _, _ => rfl
    | 16, _, _ => simp only [zc_md, up2_ne _ _ _ (show 15 ≠ 27 by decide)]
    | 17, _, _ => simp only [zc_md, up2_ne _ _ _ (show 16 ≠ 27 by decide)]
    | 18, _, _ => simp only [zc_md, up2_ne _ _ _ (show 17 ≠ 27 by decide)]
    | 19, _, _ => simp only [zc_md, up2_ne _ _ _ (show 18 ≠ 27 by decide)]
    | 20, _, _ => simp only [zc_md, up2_ne _ _ _ (show 19 ≠ 27 by decide)]
    | 21, _, _ => simp only [zc_md, up2_ne _ _ _ (show 20 ≠ 27 by decide)]
    | 22, _, _ => simp only [zc_md, up2_ne _ _ _ (show 21 ≠ 27 by decide)]
    | 23, _, _ => simp only [zc_md, up2_ne _ _ _ (show 22 ≠ 27 by decide)]
    | 24, _, _ => simp only [zc_md, up2_ne _ _ _ (show 23 ≠ 27 by decide)]
    | 25, _, _ => simp only [zc_md, up2_ne _ _ _ (show 24 ≠ 27 by decide)]
    | 26, _, _ => simp only [zc_md, up2_ne _ _ _ (show 25 ≠ 27 by decide)]
    | 27, _, _ => simp only [zc_md, up2_ne _ _ _ (show 26 ≠ 27 by decide)]
    | 28, _, g => exact absurd rfl g
    | 29, _, _ => simp only [zc_md, up2_ne _ _ _ (show 28 ≠ 27 by decide)]
    | 30, _, _ => simp only [zc_md, up2_ne _ _ _ (show 29 ≠ 27 by decide)]
    | 31, _, _ => simp only [zc_md, up2_ne _ _ _ (show 30 ≠ 27 by decide)]
    | j + 32, h, _ => exact absurd h (by omega)
theorem up_m28 {i : Nat} {v : Int32} : zx_up (zs b (B, F, (t, fr, lo, I, J))) (ma b 28) (.inl (0, 5, .inl (upd (I 28) i v))) = zs b (B, F, (t, fr, lo, up2 I 28 i v, J)) := by
  refine up_md 29 (by decide) ?_ (fun d h g => ?_)
  · simp only [zc_md, up2_at]; rfl
  · match d, h, g with
    | 0, _, _ => rfl
    | 1, _, _ => simp only [zc_md, up2_ne _ _ _ (show 0 ≠ 28 by decide)]
    | 2, _, _ => simp only [zc_md, up2_ne _ _ _ (show 1 ≠ 28 by decide)]
    | 3, _, _ => rfl
    | 4, _, _ => simp only [zc_md, up2_ne _ _ _ (show 3 ≠ 28 by decide)]
    | 5, _, _ => simp only [zc_md, up2_ne _ _ _ (show 4 ≠ 28 by decide)]
    | 6, _, _ => simp only [zc_md, up2_ne _ _ _ (show 5 ≠ 28 by decide)]
    | 7, _, _ => simp only [zc_md, up2_ne _ _ _ (show 6 ≠ 28 by decide)]
    | 8, _, _ => rfl
    | 9, _, _ => simp only [zc_md, up2_ne _ _ _ (show 8 ≠ 28 by decide)]
    | 10, _, _ => simp only [zc_md, up2_ne _ _ _ (show 9 ≠ 28 by decide)]
    | 11, _, _ => simp only [zc_md, up2_ne _ _ _ (show 10 ≠ 28 by decide)]
    | 12, _, _ => simp only [zc_md, up2_ne _ _ _ (show 11 ≠ 28 by decide)]
    | 13, _, _ => simp only [zc_md, up2_ne _ _ _ (show 12 ≠ 28 by decide)]
    | 14, _, _ => simp only [zc_md, up2_ne _ _ _ (show 13 ≠ 28 by decide)]
    | 15, _, _ => rfl
    | 16, _, _ => simp only [zc_md, up2_ne _ _ _ (show 15 ≠ 28 by decide)]
    | 17, _, _ => simp only [zc_md, up2_ne _ _ _ (show 16 ≠ 28 by decide)]
    | 18, _, _ => simp only [zc_md, up2_ne _ _ _ (show 17 ≠ 28 by decide)]
    | 19, _, _ => simp only [zc_md, up2_ne _ _ _ (show 18 ≠ 28 by decide)]
    | 20, _, _ => simp only [zc_md, up2_ne _ _ _ (show 19 ≠ 28 by decide)]
    | 21, _, _ => simp only [zc_md, up2_ne _ _ _ (show 20 ≠ 28 by decide)]
    | 22, _, _ => simp only [zc_md, up2_ne _ _ _ (show 21 ≠ 28 by decide)]
    | 23, _, _ => simp only [zc_md, up2_ne _ _ _ (show 22 ≠ 28 by decide)]
    | 24, _, _ => simp only [zc_md, up2_ne _ _ _ (show 23 ≠ 28 by decide)]
    | 25, _, _ => simp only [zc_md, up2_ne _ _ _ (show 24 ≠ 28 by decide)]
    | 26, _, _ => simp only [zc_md, up2_ne _ _ _ (show 25 ≠ 28 by decide)]
    | 27, _, _ => simp only [zc_md, up2_ne _ _ _ (show 26 ≠ 28 by decide)]
    | 28, _, _ => simp only [zc_md, up2_ne _ _ _ (show 27 ≠ 28 by decide)]
    | 29, _, g => exact absurd rfl g
    | 30, _, _ => simp only [zc_md, up2_ne _ _ _ (show 29 ≠ 28 by decide)]
    | 31, _, _ => simp only [zc_md, up2_ne _ _ _ (show 30 ≠ 28 by decide)]
    | j + 32, h, _ => exact absurd h (by omega)
theorem up_m29 {i : Nat} {v : Int32} : zx_up (zs b (B, F, (t, fr, lo, I, J))) (ma b 29) (.inl (0, 20, .inl (upd (I 29) i v))) = zs b (B, F, (t, fr, lo, up2 I 29 i v, J)) := by
  refine up_md 30 (by decide) ?_ (fun d h g => ?_)
  · simp only [zc_md, up2_at]; rfl
  · match d, h, g with
    | 0, _, _ => rfl
    | 1, _, _ => simp only [zc_md, up2_ne _ _ _ (show 0 ≠ 29 by decide)]
    | 2, _, _ => simp only [zc_md, up2_ne _ _ _ (show 1 ≠ 29 by decide)]
    | 3, _, _ => rfl
    | 4, _, _ => simp only [zc_md, up2_ne _ _ _ (show 3 ≠ 29 by decide)]
    | 5, _, _ => simp only [zc_md, up2_ne _ _ _ (show 4 ≠ 29 by decide)]
    | 6, _, _ => simp only [zc_md, up2_ne _ _ _ (show 5 ≠ 29 by decide)]
    | 7, _, _ => simp only [zc_md, up2_ne _ _ _ (show 6 ≠ 29 by decide)]
    | 8, _, _ => rfl
    | 9, _, _ => simp only [zc_md, up2_ne _ _ _ (show 8 ≠ 29 by decide)]
    | 10, _, _ => simp only [zc_md, up2_ne _ _ _ (show 9 ≠ 29 by decide)]
    | 11, _, _ => simp only [zc_md, up2_ne _ _ _ (show 10 ≠ 29 by decide)]
    | 12, _, _ => simp only [zc_md, up2_ne _ _ _ (show 11 ≠ 29 by decide)]
    | 13, _, _ => simp only [zc_md, up2_ne _ _ _ (show 12 ≠ 29 by decide)]
    | 14, _, _ => simp only [zc_md, up2_ne _ _ _ (show 13 ≠ 29 by decide)]
    | 15, _, _ => rfl
    | 16, _, _ => simp only [zc_md, up2_ne _ _ _ (show 15 ≠ 29 by decide)]
    | 17, _, _ => simp only [zc_md, up2_ne _ _ _ (show 16 ≠ 29 by decide)]
    | 18, _, _ => simp only [zc_md, up2_ne _ _ _ (show 17 ≠ 29 by decide)]
    | 19, _, _ => simp only [zc_md, up2_ne _ _ _ (show 18 ≠ 29 by decide)]
    | 20, _, _ => simp only [zc_md, up2_ne _ _ _ (show 19 ≠ 29 by decide)]
    | 21, _, _ => simp only [zc_md, up2_ne _ _ _ (show 20 ≠ 29 by decide)]
    | 22, _, _ => simp only [zc_md, up2_ne _ _ _ (show 21 ≠ 29 by decide)]
    | 23, _, _ => simp only [zc_md, up2_ne _ _ _ (show 22 ≠ 29 by decide)]
    | 24, _, _ => simp only [zc_md, up2_ne _ _ _ (show 23 ≠ 29 by decide)]
    | 25, _, _ => simp only [zc_md, up2_ne _ _ _ (show 24 ≠ 29 by decide)]
    | 26, _, _ => simp only [zc_md, up2_ne _ _ _ (show 25 ≠ 29 by decide)]
    | 27, _, _ => simp only [zc_md, up2_ne _ _ _ (show 26 ≠ 29 by decide)]
    | 28, _, _ => simp only [zc_md, up2_ne _ _ _ (show 27 ≠ 29 by decide)]
    | 29, _, _ => simp only [zc_md, up2_ne _ _ _ (show 28 ≠ 29 by decide)]
    | 30, _, g => exact absurd rfl g
    | 31, _, _ => simp only [zc_md, up2_ne _ _ _ (show 30 ≠ 29 by decide)]
    | j + 32, h, _ => exact absurd h (by omega)
theorem up_m30 {i : Nat} {v : Int32} : zx_up (zs b (B, F, (t, fr, lo, I, J))) (ma b 30) (.inl (0, 245, .inl (upd (I 30) i v))) = zs b (B, F, (t, fr, lo, up2 I 30 i v, J)) := by
  refine up_md 31 (by decide) ?_ (fun d h g => ?_)
  · simp only [zc_md, up2_at]; rfl
  · match d, h, g with
    | 0, _, _ => rfl
    | 1, _, _ => simp only [zc_md, up2_ne _ _ _ (show 0 ≠ 30 by decide)]
    | 2, _, _ => simp only [zc_md, up2_ne _ _ _ (show 1 ≠ 30 by decide)]
    | 3, _, _ => rfl
    | 4, _, _ => simp only [zc_md, up2_ne _ _ _ (show 3 ≠ 30 by decide)]
    | 5, _, _ => simp only [zc_md, up2_ne _ _ _ (show 4 ≠ 30 by decide)]
    | 6, _, _ => simp only [zc_md, up2_ne _ _ _ (show 5 ≠ 30 by decide)]
    | 7, _, _ => simp only [zc_md, up2_ne _ _ _ (show 6 ≠ 30 by decide)]
    | 8, _, _ => rfl
    | 9, _, _ => simp only [zc_md, up2_ne _ _ _ (show 8 ≠ 30 by decide)]
    | 10, _, _ => simp only [zc_md, up2_ne _ _ _ (show 9 ≠ 30 by decide)]
    | 11, _, _ => simp only [zc_md, up2_ne _ _ _ (show 10 ≠ 30 by decide)]
    | 12, _, _ => simp only [zc_md, up2_ne _ _ _ (show 11 ≠ 30 by decide)]
    | 13, _, _ => simp only [zc_md, up2_ne _ _ _ (show 12 ≠ 30 by decide)]
    | 14, _, _ => simp only [zc_md, up2_ne _ _ _ (show 13 ≠ 30 by decide)]
    | 15, _, _ => rfl
    | 16, _, _ => simp only [zc_md, up2_ne _ _ _ (show 15 ≠ 30 by decide)]
    | 17, _, _ => simp only [zc_md, up2_ne _ _ _ (show 16 ≠ 30 by decide)]
    | 18, _, _ => simp only [zc_md, up2_ne _ _ _ (show 17 ≠ 30 by decide)]
    | 19, _, _ => simp only [zc_md, up2_ne _ _ _ (show 18 ≠ 30 by decide)]
    | 20, _, _ => simp only [zc_md, up2_ne _ _ _ (show 19 ≠ 30 by decide)]
    | 21, _, _ => simp only [zc_md, up2_ne _ _ _ (show 20 ≠ 30 by decide)]
    | 22, _, _ => simp only [zc_md, up2_ne _ _ _ (show 21 ≠ 30 by decide)]
    | 23, _, _ => simp only [zc_md, up2_ne _ _ _ (show 22 ≠ 30 by decide)]
    | 24, _, _ => simp only [zc_md, up2_ne _ _ _ (show 23 ≠ 30 by decide)]
    | 25, _, _ => simp only [zc_md, up2_ne _ _ _ (show 24 ≠ 30 by decide)]
    | 26, _, _ => simp only [zc_md, up2_ne _ _ _ (show 25 ≠ 30 by decide)]
    | 27, _, _ => simp only [zc_md, up2_ne _ _ _ (show 26 ≠ 30 by decide)]
    | 28, _, _ => simp only [zc_md, up2_ne _ _ _ (show 27 ≠ 30 by decide)]
    | 29, _, _ => simp only [zc_md, up2_ne _ _ _ (show 28 ≠ 30 by decide)]
    | 30, _, _ => simp only [zc_md, up2_ne _ _ _ (show 29 ≠ 30 by decide)]
    | 31, _, g => exact absurd rfl g
    | j + 32, h, _ => exact absurd h (by omega)
end ZSR
