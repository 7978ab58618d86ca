/-! A function's state with its two sessions in order. -/
/-- a function: address, busy, noted, which room is the first, latest, outgoing, the first and the second session, deliveries, state, name, holdDue -/
abbrev zG : Type := Int32 × Bool × (Nat → Int32) × Nat × zMs × zOu × zIn × zIn × Int32 × Int32 × Int64 × Int64
def zIn0 : zIn := ((fun _ => 0, 0, 0, 0, false), false, false, 0, 0, 0, 0)
def tw (o : Nat) (x0 x1 : zIn) : Nat → zIn := fun r => if r = o then x0 else if r = 1 - o then x1 else zIn0
def gx (G : zG) : zFn := match G with
  | (ad, bz, nt, o, la, ou, x0, x1, de, st, nm, hd) => (ad, bz, nt, o, la, ou, tw o x0 x1, de, st, nm, hd)
theorem tw_0 (o : Nat) (x0 x1 x : zIn) : foc (tw o x0 x1) o x = tw o x x1 := by
  funext r
  by_cases h : r = o
  · subst h
    simp [foc, tw]
  · simp [foc, tw, h]
theorem tw_1 {o : Nat} (ho : o ≤ 1) (x0 x1 x : zIn) : foc (tw o x0 x1) (1 - o) x = tw o x0 x := by
  have h2 : 1 - o ≠ o := by omega
  funext r
  by_cases h : r = o
  · subst h
    have : ¬ r = 1 - r := by omega
    simp [foc, tw, this]
  · by_cases g : r = 1 - o
    · subst g
      simp [foc, tw, h2]
    · simp [foc, tw, h, g]
theorem tw_sw {o : Nat} (ho : o ≤ 1) (x0 x1 : zIn) : tw (1 - o) x1 x0 = tw o x0 x1 := by
  funext r
  have e : 1 - (1 - o) = o := by omega
  unfold tw
  rw [e]
  by_cases h : r = o
  · subst h
    have : ¬ r = 1 - r := by omega
    simp [this]
  · by_cases g : r = 1 - o
    · subst g
      simp [h]
    · simp [h, g]
theorem ord_0 {b f o : Nat} : zc_ord b f o 0 = some (fa b f (7 + 3 * o)) := rfl
theorem ord_1 {b f o : Nat} : zc_ord b f o 1 = some (fa b f (7 + 3 * (1 - o))) := rfl
section ZT
variable {E : zxE} {b f n : Nat} {F : Nat → zFn} {D : zMd} {B : zB} {ad : Int32} {bz : Bool} {nt : Nat → Int32} {o : Nat} {la : zMs} {ou : zOu} {x0 x1 : zIn} {de st : Int32} {nm hd : Int64} {Q : Option Value → zxH → Nat → Prop}
theorem at_t0 {pk : Nat → Int64} {so gr si lt ak : Int32} {ta op he : Bool} {ex : Nat} {du : Int64} (hf : f < 5) (ho : o ≤ 1) : zs b (B, foc F f (ad, bz, nt, o, la, ou, tw o ((pk, so, gr, si, ta), op, he, ex, lt, ak, du) x1, de, st, nm, hd), D) (fa b f (7 + 3 * o)) = some (.inr (2, [.ref (b + 1), .ref (fa b f 1), .ref (fa b f (8 + 3 * o)), .int (zb op), .int (zb he), .int (nI ex), .int lt, .int ak, .long du])) := by
  have h := at_i7 (b := b) (f := f) (F := F) (D := D) (B := B) (ad := ad) (bz := bz) (nt := nt) (o := o) (la := la) (ou := ou) (de := de) (st := st) (nm := nm) (hd := hd) (xs := tw o ((pk, so, gr, si, ta), op, he, ex, lt, ak, du) x1) (p := o) (pk := pk) (so := so) (gr := gr) (si := si) (ta := ta) (op := op) (he := he) (ex := ex) (lt := lt) (ak := ak) (du := du) hf (by omega)
  rw [tw_0] at h
  exact h
theorem at_t0m {pk : Nat → Int64} {so gr si lt ak : Int32} {ta op he : Bool} {ex : Nat} {du : Int64} (hf : f < 5) (ho : o ≤ 1) : zs b (B, foc F f (ad, bz, nt, o, la, ou, tw o ((pk, so, gr, si, ta), op, he, ex, lt, ak, du) x1, de, st, nm, hd), D) (fa b f (8 + 3 * o)) = some (.inr (3, [.ref (fa b f (9 + 3 * o)), .int so, .int gr, .int si, .int (zb ta)])) := by
  have h := at_i8 (b := b) (f := f) (F := F) (D := D) (B := B) (ad := ad) (bz := bz) (nt := nt) (o := o) (la := la) (ou := ou) (de := de) (st := st) (nm := nm) (hd := hd) (xs := tw o ((pk, so, gr, si, ta), op, he, ex, lt, ak, du) x1) (p := o) (pk := pk) (so := so) (gr := gr) (si := si) (ta := ta) (op := op) (he := he) (ex := ex) (lt := lt) (ak := ak) (du := du) hf (by omega)
  rw [tw_0] at h
  exact h
theorem at_t1 {pk : Nat → Int64} {so gr si lt ak : Int32} {ta op he : Bool} {ex : Nat} {du : Int64} (hf : f < 5) (ho : o ≤ 1) : zs b (B, foc F f (ad, bz, nt, o, la, ou, tw o x0 ((pk, so, gr, si, ta), op, he, ex, lt, ak, du), de, st, nm, hd), D) (fa b f (7 + 3 * (1 - o))) = some (.inr (2, [.ref (b + 1), .ref (fa b f 1), .ref (fa b f (8 + 3 * (1 - o))), .int (zb op), .int (zb he), .int (nI ex), .int lt, .int ak, .long du])) := by
  have h := at_i7 (b := b) (f := f) (F := F) (D := D) (B := B) (ad := ad) (bz := bz) (nt := nt) (o := o) (la := la) (ou := ou) (de := de) (st := st) (nm := nm) (hd := hd) (xs := tw o x0 ((pk, so, gr, si, ta), op, he, ex, lt, ak, du)) (p := (1 - o)) (pk := pk) (so := so) (gr := gr) (si := si) (ta := ta) (op := op) (he := he) (ex := ex) (lt := lt) (ak := ak) (du := du) hf (by omega)
  rw [tw_1 ho] at h
  exact h
theorem at_t1m {pk : Nat → Int64} {so gr si lt ak : Int32} {ta op he : Bool} {ex : Nat} {du : Int64} (hf : f < 5) (ho : o ≤ 1) : zs b (B, foc F f (ad, bz, nt, o, la, ou, tw o x0 ((pk, so, gr, si, ta), op, he, ex, lt, ak, du), de, st, nm, hd), D) (fa b f (8 + 3 * (1 - o))) = some (.inr (3, [.ref (fa b f (9 + 3 * (1 - o))), .int so, .int gr, .int si, .int (zb ta)])) := by
  have h := at_i8 (b := b) (f := f) (F := F) (D := D) (B := B) (ad := ad) (bz := bz) (nt := nt) (o := o) (la := la) (ou := ou) (de := de) (st := st) (nm := nm) (hd := hd) (xs := tw o x0 ((pk, so, gr, si, ta), op, he, ex, lt, ak, du)) (p := (1 - o)) (pk := pk) (so := so) (gr := gr) (si := si) (ta := ta) (op := op) (he := he) (ex := ex) (lt := lt) (ak := ak) (du := du) hf (by omega)
  rw [tw_1 ho] at h
  exact h
theorem ok0_In_end (hf : f < 5) (ho : o ≤ 1) (hq : Q none (zs b (B, foc F f (ad, bz, nt, o, la, ou, tw o (pc_iend x0) x1, de, st, nm, hd), D)) n) : zx_Ok E my_In_end mi_In_end [.ref (fa b f (7 + 3 * o))] (zs b (B, foc F f (ad, bz, nt, o, la, ou, tw o x0 x1, de, st, nm, hd), D)) n Q := by
  have h := ok_In_end (E := E) (b := b) (f := f) (n := n) (F := F) (D := D) (B := B) (ad := ad) (bz := bz) (nt := nt) (o := o) (la := la) (ou := ou) (de := de) (st := st) (nm := nm) (hd := hd) (Q := Q) (xs := tw o x0 x1) (p := o) (x := x0)  hf (by omega) (by rw [tw_0]; exact hq)
  rw [tw_0] at h
  exact h
theorem ok0_In_isFrom {s : Int32} {t : Bool} (hf : f < 5) (ho : o ≤ 1) (hq : ∀ r, pc_isFrom x0 s t = r → Q (some (.int (zb r))) (zs b (B, foc F f (ad, bz, nt, o, la, ou, tw o x0 x1, de, st, nm, hd), D)) n) : zx_Ok E my_In_isFrom mi_In_isFrom [.ref (fa b f (7 + 3 * o)), .int s, .int (zb t)] (zs b (B, foc F f (ad, bz, nt, o, la, ou, tw o x0 x1, de, st, nm, hd), D)) n Q := by
  have h := ok_In_isFrom (E := E) (b := b) (f := f) (n := n) (F := F) (D := D) (B := B) (ad := ad) (bz := bz) (nt := nt) (o := o) (la := la) (ou := ou) (de := de) (st := st) (nm := nm) (hd := hd) (Q := Q) (xs := tw o x0 x1) (p := o) (x := x0) (s := s) (t := t) hf (by omega) (by rw [tw_0]; exact hq)
  rw [tw_0] at h
  exact h
theorem ok0_In_begin {s g z : Int32} {t : Bool} (hf : f < 5) (ho : o ≤ 1) (hw : B.2.2.2.1 ≤ 48) (hq : ∀ B' x', pc_ibegin B (nI f) ad bz x0 s g z t = (B', x') → B'.2.2.2.1 ≤ 48 → Q none (zs b (B', foc F f (ad, bz, nt, o, la, ou, tw o x' x1, de, st, nm, hd), D)) n) : zx_Ok E my_In_begin mi_In_begin [.ref (fa b f (7 + 3 * o)), .int s, .int g, .int z, .int (zb t)] (zs b (B, foc F f (ad, bz, nt, o, la, ou, tw o x0 x1, de, st, nm, hd), D)) n Q := by
  have h := ok_In_begin (E := E) (b := b) (f := f) (n := n) (F := F) (D := D) (B := B) (ad := ad) (bz := bz) (nt := nt) (o := o) (la := la) (ou := ou) (de := de) (st := st) (nm := nm) (hd := hd) (Q := Q) (xs := tw o x0 x1) (p := o) (x := x0) (s := s) (g := g) (z := z) (t := t) hf (by omega) hw (fun B' x' h1 h2 => by rw [tw_0]; exact hq B' x' h1 h2)
  rw [tw_0] at h
  exact h
theorem ok0_In_goOff (hf : f < 5) (ho : o ≤ 1) (hw : B.2.2.2.1 ≤ 48) (hq : ∀ B' x', pc_igoOff B (nI f) ad bz x0 = (B', x') → B'.2.2.2.1 ≤ 48 → Q none (zs b (B', foc F f (ad, bz, nt, o, la, ou, tw o x' x1, de, st, nm, hd), D)) n) : zx_Ok E my_In_goOff mi_In_goOff [.ref (fa b f (7 + 3 * o))] (zs b (B, foc F f (ad, bz, nt, o, la, ou, tw o x0 x1, de, st, nm, hd), D)) n Q := by
  have h := ok_In_goOff (E := E) (b := b) (f := f) (n := n) (F := F) (D := D) (B := B) (ad := ad) (bz := bz) (nt := nt) (o := o) (la := la) (ou := ou) (de := de) (st := st) (nm := nm) (hd := hd) (Q := Q) (xs := tw o x0 x1) (p := o) (x := x0)  hf (by omega) hw (fun B' x' h1 h2 => by rw [tw_0]; exact hq B' x' h1 h2)
  rw [tw_0] at h
  exact h
theorem ok0_In_takeToAll {d : Int64} (hf : f < 5) (ho : o ≤ 1) (hex : x0.2.2.2.1 < 100000) (hq : ∀ r x', pc_takeAll B x0 d = (r, x') → Q (some (.int (zb r))) (zs b (B, foc F f (ad, bz, nt, o, la, ou, tw o x' x1, de, st, nm, hd), D)) n) : zx_Ok E my_In_takeToAll mi_In_takeToAll [.ref (fa b f (7 + 3 * o)), .long d] (zs b (B, foc F f (ad, bz, nt, o, la, ou, tw o x0 x1, de, st, nm, hd), D)) n Q := by
  have h := ok_In_takeToAll (E := E) (b := b) (f := f) (n := n) (F := F) (D := D) (B := B) (ad := ad) (bz := bz) (nt := nt) (o := o) (la := la) (ou := ou) (de := de) (st := st) (nm := nm) (hd := hd) (Q := Q) (xs := tw o x0 x1) (p := o) (x := x0) (d := d) hf (by omega) hex (fun r x' h1 => by rw [tw_0]; exact hq r x' h1)
  rw [tw_0] at h
  exact h
theorem ok0_In_takeDirected {d : Int64} (hf : f < 5) (ho : o ≤ 1) (hw : B.2.2.2.1 ≤ 48) (hex : x0.2.2.2.1 < 100000) (hq : ∀ r B' x', pc_takeDir B (nI f) ad bz x0 d = (r, B', x') → B'.2.2.2.1 ≤ 48 → Q (some (.int (zb r))) (zs b (B', foc F f (ad, bz, nt, o, la, ou, tw o x' x1, de, st, nm, hd), D)) n) : zx_Ok E my_In_takeDirected mi_In_takeDirected [.ref (fa b f (7 + 3 * o)), .long d] (zs b (B, foc F f (ad, bz, nt, o, la, ou, tw o x0 x1, de, st, nm, hd), D)) n Q := by
  have h := ok_In_takeDirected (E := E) (b := b) (f := f) (n := n) (F := F) (D := D) (B := B) (ad := ad) (bz := bz) (nt := nt) (o := o) (la := la) (ou := ou) (de := de) (st := st) (nm := nm) (hd := hd) (Q := Q) (xs := tw o x0 x1) (p := o) (x := x0) (d := d) hf (by omega) hw hex (fun r B' x' h1 h2 => by rw [tw_0]; exact hq r B' x' h1 h2)
  rw [tw_0] at h
  exact h
theorem ok0_Ms_copy (hf : f < 5) (ho : o ≤ 1) (hq : Q none (zs b (B, foc F f (ad, bz, nt, o, (pc_copy la x0.1), ou, tw o x0 x1, de, st, nm, hd), D)) n) : zx_Ok E my_Ms_copy mi_Ms_copy [.ref (fa b f 4), .ref (fa b f (8 + 3 * o))] (zs b (B, foc F f (ad, bz, nt, o, la, ou, tw o x0 x1, de, st, nm, hd), D)) n Q := by
  have h := ok_Ms_copy (E := E) (b := b) (f := f) (n := n) (F := F) (D := D) (B := B) (ad := ad) (bz := bz) (nt := nt) (o := o) (la := la) (ou := ou) (de := de) (st := st) (nm := nm) (hd := hd) (Q := Q) (xs := tw o x0 x1) (p := o) (x := x0) hf (by omega) (by rw [tw_0]; exact hq)
  rw [tw_0] at h
  exact h
theorem ok1_In_end (hf : f < 5) (ho : o ≤ 1) (hq : Q none (zs b (B, foc F f (ad, bz, nt, o, la, ou, tw o x0 (pc_iend x1), de, st, nm, hd), D)) n) : zx_Ok E my_In_end mi_In_end [.ref (fa b f (7 + 3 * (1 - o)))] (zs b (B, foc F f (ad, bz, nt, o, la, ou, tw o x0 x1, de, st, nm, hd), D)) n Q := by
  have h := ok_In_end (E := E) (b := b) (f := f) (n := n) (F := F) (D := D) (B := B) (ad := ad) (bz := bz) (nt := nt) (o := o) (la := la) (ou := ou) (de := de) (st := st) (nm := nm) (hd := hd) (Q := Q) (xs := tw o x0 x1) (p := (1 - o)) (x := x1)  hf (by omega) (by rw [tw_1 ho]; exact hq)
  rw [tw_1 ho] at h
  exact h
theorem ok1_In_isFrom {s : Int32} {t : Bool} (hf : f < 5) (ho : o ≤ 1) (hq : ∀ r, pc_isFrom x1 s t = r → Q (some (.int (zb r))) (zs b (B, foc F f (ad, bz, nt, o, la, ou, tw o x0 x1, de, st, nm, hd), D)) n) : zx_Ok E my_In_isFrom mi_In_isFrom [.ref (fa b f (7 + 3 * (1 - o))), .int s, .int (zb t)] (zs b (B, foc F f (ad, bz, nt, o, la, ou, tw o x0 x1, de, st, nm, hd), D)) n Q := by
  have h := ok_In_isFrom (E := E) (b := b) (f := f) (n := n) (F := F) (D := D) (B := B) (ad := ad) (bz := bz) (nt := nt) (o := o) (la := la) (ou := ou) (de := de) (st := st) (nm := nm) (hd := hd) (Q := Q) (xs := tw o x0 x1) (p := (1 - o)) (x := x1) (s := s) (t := t) hf (by omega) (by rw [tw_1 ho]; exact hq)
  rw [tw_1 ho] at h
  exact h
theorem ok1_In_begin {s g z : Int32} {t : Bool} (hf : f < 5) (ho : o ≤ 1) (hw : B.2.2.2.1 ≤ 48) (hq : ∀ B' x', pc_ibegin B (nI f) ad bz x1 s g z t = (B', x') → B'.2.2.2.1 ≤ 48 → Q none (zs b (B', foc F f (ad, bz, nt, o, la, ou, tw o x0 x', de, st, nm, hd), D)) n) : zx_Ok E my_In_begin mi_In_begin [.ref (fa b f (7 + 3 * (1 - o))), .int s, .int g, .int z, .int (zb t)] (zs b (B, foc F f (ad, bz, nt, o, la, ou, tw o x0 x1, de, st, nm, hd), D)) n Q := by
  have h := ok_In_begin (E := E) (b := b) (f := f) (n := n) (F := F) (D := D) (B := B) (ad := ad) (bz := bz) (nt := nt) (o := o) (la := la) (ou := ou) (de := de) (st := st) (nm := nm) (hd := hd) (Q := Q) (xs := tw o x0 x1) (p := (1 - o)) (x := x1) (s := s) (g := g) (z := z) (t := t) hf (by omega) hw (fun B' x' h1 h2 => by rw [tw_1 ho]; exact hq B' x' h1 h2)
  rw [tw_1 ho] at h
  exact h
theorem ok1_In_goOff (hf : f < 5) (ho : o ≤ 1) (hw : B.2.2.2.1 ≤ 48) (hq : ∀ B' x', pc_igoOff B (nI f) ad bz x1 = (B', x') → B'.2.2.2.1 ≤ 48 → Q none (zs b (B', foc F f (ad, bz, nt, o, la, ou, tw o x0 x', de, st, nm, hd), D)) n) : zx_Ok E my_In_goOff mi_In_goOff [.ref (fa b f (7 + 3 * (1 - o)))] (zs b (B, foc F f (ad, bz, nt, o, la, ou, tw o x0 x1, de, st, nm, hd), D)) n Q := by
  have h := ok_In_goOff (E := E) (b := b) (f := f) (n := n) (F := F) (D := D) (B := B) (ad := ad) (bz := bz) (nt := nt) (o := o) (la := la) (ou := ou) (de := de) (st := st) (nm := nm) (hd := hd) (Q := Q) (xs := tw o x0 x1) (p := (1 - o)) (x := x1)  hf (by omega) hw (fun B' x' h1 h2 => by rw [tw_1 ho]; exact hq B' x' h1 h2)
  rw [tw_1 ho] at h
  exact h
theorem ok1_In_takeToAll {d : Int64} (hf : f < 5) (ho : o ≤ 1) (hex : x1.2.2.2.1 < 100000) (hq : ∀ r x', pc_takeAll B x1 d = (r, x') → Q (some (.int (zb r))) (zs b (B, foc F f (ad, bz, nt, o, la, ou, tw o x0 x', de, st, nm, hd), D)) n) : zx_Ok E my_In_takeToAll mi_In_takeToAll [.ref (fa b f (7 + 3 * (1 - o))), .long d] (zs b (B, foc F f (ad, bz, nt, o, la, ou, tw o x0 x1, de, st, nm, hd), D)) n Q := by
  have h := ok_In_takeToAll (E := E) (b := b) (f := f) (n := n) (F := F) (D := D) (B := B) (ad := ad) (bz := bz) (nt := nt) (o := o) (la := la) (ou := ou) (de := de) (st := st) (nm := nm) (hd := hd) (Q := Q) (xs := tw o x0 x1) (p := (1 - o)) (x := x1) (d := d) hf (by omega) hex (fun r x' h1 => by rw [tw_1 ho]; exact hq r x' h1)
  rw [tw_1 ho] at h
  exact h
theorem ok1_In_takeDirected {d : Int64} (hf : f < 5) (ho : o ≤ 1) (hw : B.2.2.2.1 ≤ 48) (hex : x1.2.2.2.1 < 100000) (hq : ∀ r B' x', pc_takeDir B (nI f) ad bz x1 d = (r, B', x') → B'.2.2.2.1 ≤ 48 → Q (some (.int (zb r))) (zs b (B', foc F f (ad, bz, nt, o, la, ou, tw o x0 x', de, st, nm, hd), D)) n) : zx_Ok E my_In_takeDirected mi_In_takeDirected [.ref (fa b f (7 + 3 * (1 - o))), .long d] (zs b (B, foc F f (ad, bz, nt, o, la, ou, tw o x0 x1, de, st, nm, hd), D)) n Q := by
  have h := ok_In_takeDirected (E := E) (b := b) (f := f) (n := n) (F := F) (D := D) (B := B) (ad := ad) (bz := bz) (nt := nt) (o := o) (la := la) (ou := ou) (de := de) (st := st) (nm := nm) (hd := hd) (Q := Q) (xs := tw o x0 x1) (p := (1 - o)) (x := x1) (d := d) hf (by omega) hw hex (fun r B' x' h1 h2 => by rw [tw_1 ho]; exact hq r B' x' h1 h2)
  rw [tw_1 ho] at h
  exact h
theorem ok1_Ms_copy (hf : f < 5) (ho : o ≤ 1) (hq : Q none (zs b (B, foc F f (ad, bz, nt, o, (pc_copy la x1.1), ou, tw o x0 x1, de, st, nm, hd), D)) n) : zx_Ok E my_Ms_copy mi_Ms_copy [.ref (fa b f 4), .ref (fa b f (8 + 3 * (1 - o)))] (zs b (B, foc F f (ad, bz, nt, o, la, ou, tw o x0 x1, de, st, nm, hd), D)) n Q := by
  have h := ok_Ms_copy (E := E) (b := b) (f := f) (n := n) (F := F) (D := D) (B := B) (ad := ad) (bz := bz) (nt := nt) (o := o) (la := la) (ou := ou) (de := de) (st := st) (nm := nm) (hd := hd) (Q := Q) (xs := tw o x0 x1) (p := (1 - o)) (x := x1) hf (by omega) (by rw [tw_1 ho]; exact hq)
  rw [tw_1 ho] at h
  exact h
theorem up_oth {h : zxH} {q a : Nat} {e e' : va_E} (hn : q ≠ a) (hh : h q = some e) : zx_up h a e' q = some e := by
  unfold zx_up
  rw [if_neg hn]
  exact hh
theorem up_same {h : zxH} {a : Nat} {e : va_E} : zx_up h a e a = some e := if_pos rfl
theorem up_up {h : zxH} {a : Nat} {e e' : va_E} : zx_up (zx_up h a e) a e' = zx_up h a e' := by
  funext q
  unfold zx_up
  by_cases g : q = a
  · rw [if_pos g, if_pos g]
  · rw [if_neg g, if_neg g, if_neg g]
theorem room_sw {e1 : va_E} (hf : f < 5) (ho : o ≤ 1) : zx_up (zx_up (zs b (B, foc F f (ad, bz, nt, o, la, ou, tw o x0 x1, de, st, nm, hd), D)) (fa b f 3) e1) (fa b f 3) (.inl (4, 2, .inr (.inr (.inr (.inr (va_up (va_up (zc_ord b f o) 0 (some (fa b f (7 + 3 * (1 - o))))) 1 (some (fa b f (7 + 3 * o))))))))) = zs b (B, foc F f (ad, bz, nt, 1 - o, la, ou, tw (1 - o) x1 x0, de, st, nm, hd), D) := by
  rw [up_up, tw_sw ho]
  have hz : va_up (va_up (zc_ord b f o) 0 (some (fa b f (7 + 3 * (1 - o))))) 1 (some (fa b f (7 + 3 * o))) = zc_ord b f (1 - o) := by
    have e : 1 - (1 - o) = o := by omega
    funext i
    unfold va_up zc_ord
    rw [e]
    by_cases h0 : i = 0
    · subst h0
      simp
    · by_cases h1 : i = 1
      · subst h1
        simp
      · simp [h0, h1]
  rw [hz]
  exact up_fn 3 hf (by decide) rfl (fun d h g => match d, h, g with | 0, _, _ => rfl | 1, _, _ => rfl | 2, _, _ => rfl | 3, _, h => absurd rfl h | 4, _, _ => rfl | 5, _, _ => rfl | 6, _, _ => rfl | 7, _, _ => rfl | 8, _, _ => rfl | 9, _, _ => rfl | 10, _, _ => rfl | 11, _, _ => rfl | 12, _, _ => rfl)
end ZT
theorem pc_fb_n (d : Int64) (k : Int32) : ∃ c : Nat, c < 256 ∧ pc_fb d k = nI c := pk_andE _ (m := nI 255) 8 (by decide)
theorem zx_iincC_0 {E : zxE} {M : zxM} {Y : zxY} {pc q cells slots n : Nat} {st : List Value} {h : zxH} {rr : List (Option Value)} {j : Nat} (j' : Nat) (hd : decode M.2.2.1 pc = .ok (.iinc 0 1, 3)) (hq : pc + 3 = q) (hj : j + 1 = j') (hn : 0 < M.2.2.2.1) (k : zx_X E M Y q (some (.int (nI j')) :: rr) st h n cells slots) : zx_X E M Y pc (some (.int (nI j)) :: rr) st h n cells slots :=
  zx_iincN_0 hd hq hn (by rw [hj]; exact k)
theorem zx_iincC_1 {E : zxE} {M : zxM} {Y : zxY} {pc q cells slots n : Nat} {st : List Value} {h : zxH} {a0 : Option Value} {rr : List (Option Value)} {j : Nat} (j' : Nat) (hd : decode M.2.2.1 pc = .ok (.iinc 1 1, 3)) (hq : pc + 3 = q) (hj : j + 1 = j') (hn : 1 < M.2.2.2.1) (hc : zx_n2 a0 = true) (k : zx_X E M Y q (a0 :: some (.int (nI j')) :: rr) st h n cells slots) : zx_X E M Y pc (a0 :: some (.int (nI j)) :: rr) st h n cells slots :=
  zx_iincN_1 hd hq hn hc (by rw [hj]; exact k)
theorem zx_iincC_2 {E : zxE} {M : zxM} {Y : zxY} {pc q cells slots n : Nat} {st : List Value} {h : zxH} {a0 a1 : Option Value} {rr : List (Option Value)} {j : Nat} (j' : Nat) (hd : decode M.2.2.1 pc = .ok (.iinc 2 1, 3)) (hq : pc + 3 = q) (hj : j + 1 = j') (hn : 2 < M.2.2.2.1) (hc : zx_n2 a1 = true) (k : zx_X E M Y q (a0 :: a1 :: some (.int (nI j')) :: rr) st h n cells slots) : zx_X E M Y pc (a0 :: a1 :: some (.int (nI j)) :: rr) st h n cells slots :=
  zx_iincN_2 hd hq hn hc (by rw [hj]; exact k)
theorem zx_iincC_3 {E : zxE} {M : zxM} {Y : zxY} {pc q cells slots n : Nat} {st : List Value} {h : zxH} {a0 a1 a2 : Option Value} {rr : List (Option Value)} {j : Nat} (j' : Nat) (hd : decode M.2.2.1 pc = .ok (.iinc 3 1, 3)) (hq : pc + 3 = q) (hj : j + 1 = j') (hn : 3 < M.2.2.2.1) (hc : zx_n2 a2 = true) (k : zx_X E M Y q (a0 :: a1 :: a2 :: some (.int (nI j')) :: rr) st h n cells slots) : zx_X E M Y pc (a0 :: a1 :: a2 :: some (.int (nI j)) :: rr) st h n cells slots :=
  zx_iincN_3 hd hq hn hc (by rw [hj]; exact k)
theorem zx_iincC_4 {E : zxE} {M : zxM} {Y : zxY} {pc q cells slots n : Nat} {st : List Value} {h : zxH} {a0 a1 a2 a3 : Option Value} {rr : List (Option Value)} {j : Nat} (j' : Nat) (hd : decode M.2.2.1 pc = .ok (.iinc 4 1, 3)) (hq : pc + 3 = q) (hj : j + 1 = j') (hn : 4 < M.2.2.2.1) (hc : zx_n2 a3 = true) (k : zx_X E M Y q (a0 :: a1 :: a2 :: a3 :: some (.int (nI j')) :: rr) st h n cells slots) : zx_X E M Y pc (a0 :: a1 :: a2 :: a3 :: some (.int (nI j)) :: rr) st h n cells slots :=
  zx_iincN_4 hd hq hn hc (by rw [hj]; exact k)
theorem zx_iincC_5 {E : zxE} {M : zxM} {Y : zxY} {pc q cells slots n : Nat} {st : List Value} {h : zxH} {a0 a1 a2 a3 a4 : Option Value} {rr : List (Option Value)} {j : Nat} (j' : Nat) (hd : decode M.2.2.1 pc = .ok (.iinc 5 1, 3)) (hq : pc + 3 = q) (hj : j + 1 = j') (hn : 5 < M.2.2.2.1) (hc : zx_n2 a4 = true) (k : zx_X E M Y q (a0 :: a1 :: a2 :: a3 :: a4 :: some (.int (nI j')) :: rr) st h n cells slots) : zx_X E M Y pc (a0 :: a1 :: a2 :: a3 :: a4 :: some (.int (nI j)) :: rr) st h n cells slots :=
  zx_iincN_5 hd hq hn hc (by rw [hj]; exact k)
theorem zx_iincC_6 {E : zxE} {M : zxM} {Y : zxY} {pc q cells slots n : Nat} {st : List Value} {h : zxH} {a0 a1 a2 a3 a4 a5 : Option Value} {rr : List (Option Value)} {j : Nat} (j' : Nat) (hd : decode M.2.2.1 pc = .ok (.iinc 6 1, 3)) (hq : pc + 3 = q) (hj : j + 1 = j') (hn : 6 < M.2.2.2.1) (hc : zx_n2 a5 = true) (k : zx_X E M Y q (a0 :: a1 :: a2 :: a3 :: a4 :: a5 :: some (.int (nI j')) :: rr) st h n cells slots) : zx_X E M Y pc (a0 :: a1 :: a2 :: a3 :: a4 :: a5 :: some (.int (nI j)) :: rr) st h n cells slots :=
  zx_iincN_6 hd hq hn hc (by rw [hj]; exact k)
theorem zx_iincC_7 {E : zxE} {M : zxM} {Y : zxY} {pc q cells slots n : Nat} {st : List Value} {h : zxH} {a0 a1 a2 a3 a4 a5 a6 : Option Value} {rr : List (Option Value)} {j : Nat} (j' : Nat) (hd : decode M.2.2.1 pc = .ok (.iinc 7 1, 3)) (hq : pc + 3 = q) (hj : j + 1 = j') (hn : 7 < M.2.2.2.1) (hc : zx_n2 a6 = true) (k : zx_X E M Y q (a0 :: a1 :: a2 :: a3 :: a4 :: a5 :: a6 :: some (.int (nI j')) :: rr) st h n cells slots) : zx_X E M Y pc (a0 :: a1 :: a2 :: a3 :: a4 :: a5 :: a6 :: some (.int (nI j)) :: rr) st h n cells slots :=
  zx_iincN_7 hd hq hn hc (by rw [hj]; exact k)
theorem zx_iincC_8 {E : zxE} {M : zxM} {Y : zxY} {pc q cells slots n : Nat} {st : List Value} {h : zxH} {a0 a1 a2 a3 a4 a5 a6 a7 : Option Value} {rr : List (Option Value)} {j : Nat} (j' : Nat) (hd : decode M.2.2.1 pc = .ok (.iinc 8 1, 3)) (hq : pc + 3 = q) (hj : j + 1 = j') (hn : 8 < M.2.2.2.1) (hc : zx_n2 a7 = true) (k : zx_X E M Y q (a0 :: a1 :: a2 :: a3 :: a4 :: a5 :: a6 :: a7 :: some (.int (nI j')) :: rr) st h n cells slots) : zx_X E M Y pc (a0 :: a1 :: a2 :: a3 :: a4 :: a5 :: a6 :: a7 :: some (.int (nI j)) :: rr) st h n cells slots :=
  zx_iincN_8 hd hq hn hc (by rw [hj]; exact k)
theorem zx_iincC_9 {E : zxE} {M : zxM} {Y : zxY} {pc q cells slots n : Nat} {st : List Value} {h : zxH} {a0 a1 a2 a3 a4 a5 a6 a7 a8 : Option Value} {rr : List (Option Value)} {j : Nat} (j' : Nat) (hd : decode M.2.2.1 pc = .ok (.iinc 9 1, 3)) (hq : pc + 3 = q) (hj : j + 1 = j') (hn : 9 < M.2.2.2.1) (hc : zx_n2 a8 = true) (k : zx_X E M Y q (a0 :: a1 :: a2 :: a3 :: a4 :: a5 :: a6 :: a7 :: a8 :: some (.int (nI j')) :: rr) st h n cells slots) : zx_X E M Y pc (a0 :: a1 :: a2 :: a3 :: a4 :: a5 :: a6 :: a7 :: a8 :: some (.int (nI j)) :: rr) st h n cells slots :=
  zx_iincN_9 hd hq hn hc (by rw [hj]; exact k)
theorem zx_iincC_10 {E : zxE} {M : zxM} {Y : zxY} {pc q cells slots n : Nat} {st : List Value} {h : zxH} {a0 a1 a2 a3 a4 a5 a6 a7 a8 a9 : Option Value} {rr : List (Option Value)} {j : Nat} (j' : Nat) (hd : decode M.2.2.1 pc = .ok (.iinc 10 1, 3)) (hq : pc + 3 = q) (hj : j + 1 = j') (hn : 10 < M.2.2.2.1) (hc : zx_n2 a9 = true) (k : zx_X E M Y q (a0 :: a1 :: a2 :: a3 :: a4 :: a5 :: a6 :: a7 :: a8 :: a9 :: some (.int (nI j')) :: rr) st h n cells slots) : zx_X E M Y pc (a0 :: a1 :: a2 :: a3 :: a4 :: a5 :: a6 :: a7 :: a8 :: a9 :: some (.int (nI j)) :: rr) st h n cells slots :=
  zx_iincN_10 hd hq hn hc (by rw [hj]; exact k)
theorem zx_iincC_11 {E : zxE} {M : zxM} {Y : zxY} {pc q cells slots n : Nat} {st : List Value} {h : zxH} {a0 a1 a2 a3 a4 a5 a6 a7 a8 a9 a10 : Option Value} {rr : List (Option Value)} {j : Nat} (j' : Nat) (hd : decode M.2.2.1 pc = .ok (.iinc 11 1, 3)) (hq : pc + 3 = q) (hj : j + 1 = j') (hn : 11 < M.2.2.2.1) (hc : zx_n2 a10 = true) (k : zx_X E M Y q (a0 :: a1 :: a2 :: a3 :: a4 :: a5 :: a6 :: a7 :: a8 :: a9 :: a10 :: some (.int (nI j')) :: rr) st h n cells slots) : zx_X E M Y pc (a0 :: a1 :: a2 :: a3 :: a4 :: a5 :: a6 :: a7 :: a8 :: a9 :: a10 :: some (.int (nI j)) :: rr) st h n cells slots :=
  zx_iincN_11 hd hq hn hc (by rw [hj]; exact k)
theorem zx_iincC_12 {E : zxE} {M : zxM} {Y : zxY} {pc q cells slots n : Nat} {st : List Value} {h : zxH} {a0 a1 a2 a3 a4 a5 a6 a7 a8 a9 a10 a11 : Option Value} {rr : List (Option Value)} {j : Nat} (j' : Nat) (hd : decode M.2.2.1 pc = .ok (.iinc 12 1, 3)) (hq : pc + 3 = q) (hj : j + 1 = j') (hn : 12 < M.2.2.2.1) (hc : zx_n2 a11 = true) (k : zx_X E M Y q (a0 :: a1 :: a2 :: a3 :: a4 :: a5 :: a6 :: a7 :: a8 :: a9 :: a10 :: a11 :: some (.int (nI j')) :: rr) st h n cells slots) : zx_X E M Y pc (a0 :: a1 :: a2 :: a3 :: a4 :: a5 :: a6 :: a7 :: a8 :: a9 :: a10 :: a11 :: some (.int (nI j)) :: rr) st h n cells slots :=
  zx_iincN_12 hd hq hn hc (by rw [hj]; exact k)
theorem zx_iincC_13 {E : zxE} {M : zxM} {Y : zxY} {pc q cells slots n : Nat} {st : List Value} {h : zxH} {a0 a1 a2 a3 a4 a5 a6 a7 a8 a9 a10 a11 a12 : Option Value} {rr : List (Option Value)} {j : Nat} (j' : Nat) (hd : decode M.2.2.1 pc = .ok (.iinc 13 1, 3)) (hq : pc + 3 = q) (hj : j + 1 = j') (hn : 13 < M.2.2.2.1) (hc : zx_n2 a12 = true) (k : zx_X E M Y q (a0 :: a1 :: a2 :: a3 :: a4 :: a5 :: a6 :: a7 :: a8 :: a9 :: a10 :: a11 :: a12 :: some (.int (nI j')) :: rr) st h n cells slots) : zx_X E M Y pc (a0 :: a1 :: a2 :: a3 :: a4 :: a5 :: a6 :: a7 :: a8 :: a9 :: a10 :: a11 :: a12 :: some (.int (nI j)) :: rr) st h n cells slots :=
  zx_iincN_13 hd hq hn hc (by rw [hj]; exact k)
theorem zx_tableOut {E : zxE} {M : zxM} {Y : zxY} {pc cells slots n : Nat} {L : List (Option Value)} {st : List Value} {h : zxH} {dflt lo hi : Int} {offs : Array Int} {len : Nat} {x : Int32} (t : Nat) (hd : decode M.2.2.1 pc = .ok (.tableswitch dflt lo hi offs, len)) (hx : x.toInt < lo ∨ hi < x.toInt) (ht : (pc : Int) + dflt = (t : Int)) (k : zx_X E M Y t L st h n cells slots) : zx_X E M Y pc L (.int x :: st) h n cells slots :=
  fun p e s m args below meth c ls H locs C hl hR hS hb => lv_tableOut C.1 C.2.1 hd hx ht (k p e s m args below meth c ls H locs C hl hR hS hb)
theorem zx_tableIn {E : zxE} {M : zxM} {Y : zxY} {pc cells slots n : Nat} {L : List (Option Value)} {st : List Value} {h : zxH} {dflt lo hi : Int} {offs : Array Int} {len : Nat} {x : Int32} {off : Int} (t : Nat) (hd : decode M.2.2.1 pc = .ok (.tableswitch dflt lo hi offs, len)) (h1 : ¬ x.toInt < lo) (h2 : ¬ hi < x.toInt) (ho : offs[(x.toInt - lo).toNat]? = some off) (ht : (pc : Int) + off = (t : Int)) (k : zx_X E M Y t L st h n cells slots) : zx_X E M Y pc L (.int x :: st) h n cells slots :=
  fun p e s m args below meth c ls H locs C hl hR hS hb => lv_tableIn C.1 C.2.1 hd h1 h2 ho ht (k p e s m args below meth c ls H locs C hl hR hS hb)
def jmin (x y : Int64) : Int64 := if y < x then y else x
def pf_HEAD : Int32 := nI 418250752
def pf_claim (B : zB) (num : Int32) (G : zG) (a : Int32) : zB × zG := match G with
  | (_, bz, nt, o, la, ou, x0, x1, de, _, nm, _) => (pc_put B num a (nI 418250752) (nI 255) nm, (a, bz, nt, o, la, ou, x0, x1, de, nI 1, nm, B.2.2.2.2.2 + lN 250))
/-- the first k are -1 -/
def pf_fill (nt : Nat → Int32) (k : Nat) : Nat → Int32 := fun i => if i < k then -1 else nt i
theorem pf_fill_0 (nt : Nat → Int32) : pf_fill nt 0 = nt := by
  funext i
  simp [pf_fill]
theorem pf_fill_s (nt : Nat → Int32) (k : Nat) : upd (pf_fill nt k) k (-1) = pf_fill nt (k + 1) := by
  funext i
  by_cases h : i = k
  · subst h
    simp [pf_fill, upd]
  · by_cases g : i < k
    · have : i < k + 1 := by omega
      simp [pf_fill, upd, h, g, this]
    · have : ¬ i < k + 1 := by omega
      simp [pf_fill, upd, h, g, this]
def pf_on (B : zB) (num : Int32) (G : zG) (name : Int64) (a : Int32) : zB × zG := match G with
  | (ad, bz, nt, o, la, (ph, _, tg, gp, sz, se, nx, du), x0, x1, _, st, _, hd) => pf_claim B num (ad, bz, pf_fill nt 5, o, la, (ph, nI 0, tg, gp, sz, se, nx, du), x0, x1, nI 0, st, name, hd) a
def pf_ends (G : zG) : zG := match G with
  | (ad, bz, nt, o, la, ou, x0, x1, de, st, nm, hd) => (ad, bz, nt, o, la, if ou.1 = 0 then ou else pc_oend ou (nI 13), pc_iend x0, pc_iend x1, de, st, nm, hd)
def pf_off (B : zB) (num : Int32) (G : zG) : zB × zG := match pf_ends G with
  | (ad, bz, nt, o, la, ou, x0, x1, de, _, nm, _) => (pc_takeOf B num, (ad, bz, nt, o, la, ou, x0, x1, de, nI 0, nm, pc_NEVER))
def pf_can (G : zG) (t : Int32) : Bool := match G with
  | (ad, _, _, _, _, ou, _, _, _, st, _, _) => (decide (t = nI 255) || (!decide (t < 0) && !decide (nI 253 < t))) && decide (st = nI 2) && !decide (t = ad) && decide (ou.1 = 0)
def pf_count (G : zG) : Nat := match G with
  | (_, _, _, _, _, _, x0, x1, _, _, _, _) => (if x0.2.1 = true then 1 else 0) + (if x1.2.1 = true then 1 else 0)
def pf_nextDue (G : zG) : Int64 := match G with
  | (_, _, _, _, _, ou, x0, x1, _, _, _, hd) => jmin (jmin (jmin hd ou.2.2.2.2.2.2.2) x0.2.2.2.2.2.2) x1.2.2.2.2.2.2
def pf_goOff (B : zB) (num : Int32) (G : zG) : zB × zG := match G with
  | (ad, bz, nt, o, la, ou, x0, x1, de, st, nm, hd) =>
    if hd = B.2.2.2.2.2 then (B, (ad, bz, nt, o, la, ou, x0, x1, de, nI 2, nm, pc_NEVER))
    else if ou.2.2.2.2.2.2.2 = B.2.2.2.2.2 then ((pc_ogoOff B num ad ou).1, (ad, bz, nt, o, la, (pc_ogoOff B num ad ou).2, x0, x1, de, st, nm, hd))
    else if x0.2.2.2.2.2.2 = B.2.2.2.2.2 then ((pc_igoOff B num ad bz x0).1, (ad, bz, nt, o, la, ou, (pc_igoOff B num ad bz x0).2, x1, de, st, nm, hd))
    else if x1.2.2.2.2.2.2 = B.2.2.2.2.2 then ((pc_igoOff B num ad bz x1).1, (ad, bz, nt, o, la, ou, x0, (pc_igoOff B num ad bz x1).2, de, st, nm, hd))
    else (B, (ad, bz, nt, o, la, ou, x0, x1, de, st, nm, hd))
def pf_less (nm other : Int64) : Bool := decide (nm ^^^ (-9223372036854775808) < other ^^^ (-9223372036854775808))
def pf_noted (nt : Nat → Int32) (a : Int32) : Bool := decide (nt 0 = a) || decide (nt 1 = a) || decide (nt 2 = a) || decide (nt 3 = a) || decide (nt 4 = a)
def pf_spare (nt : Nat → Int32) : Int32 :=
  if pf_noted nt (nI 128) = false then nI 128 else if pf_noted nt (nI 129) = false then nI 129 else if pf_noted nt (nI 130) = false then nI 130 else if pf_noted nt (nI 131) = false then nI 131 else nI 132
def pf_lose (B : zB) (num : Int32) (G : zG) : zB × zG := match pf_ends G with
  | (ad, bz, nt, o, la, ou, x0, x1, de, st, nm, hd) =>
    if nm < lN 0 ∧ ¬ nI 131 < pf_spare nt then pf_claim B num (ad, bz, nt, o, la, ou, x0, x1, de, st, nm, hd) (pf_spare nt)
    else (pc_put B num (nI 254) (nI 418250752) (nI 255) nm, (nI 254, bz, nt, o, la, ou, x0, x1, de, nI 3, nm, pc_NEVER))
def pf_takeClaim (B : zB) (num : Int32) (G : zG) (s : Nat) (src : Int32) (other : Int64) : zB × zG := match G with
  | (ad, bz, nt, o, la, ou, x0, x1, de, st, nm, hd) =>
    if st = nI 3 then (B, (ad, bz, upd nt s src, o, la, ou, x0, x1, de, st, nm, hd))
    else if src = ad then
      if pf_less nm other = true then
        (pc_put B num ad (nI 418250752) (nI 255) nm, (ad, bz, upd nt s src, o, la, ou, x0, x1, de, st, nm, if st = nI 1 then (pc_put B num ad (nI 418250752) (nI 255) nm).2.2.2.2.2 + lN 250 else hd))
      else pf_lose B num (ad, bz, upd nt s src, o, la, ou, x0, x1, de, st, nm, hd)
    else (B, (ad, bz, upd nt s src, o, la, ou, x0, x1, de, st, nm, hd))
def pf_room (G : zG) : zG := match G with
  | (ad, bz, nt, o, la, ou, x0, x1, de, st, nm, hd) => if x1.2.1 = true then (ad, bz, nt, 1 - o, la, ou, x1, x0, de, st, nm, hd) else (ad, bz, nt, o, la, ou, x0, x1, de, st, nm, hd)
def pf_drop (G : zG) (s : Int32) (t : Bool) : zG := match G with
  | (ad, bz, nt, o, la, ou, x0, x1, de, st, nm, hd) => (ad, bz, nt, o, la, ou, if pc_isFrom x0 s t = true then pc_iend x0 else x0, if pc_isFrom x1 s t = true then pc_iend x1 else x1, de, st, nm, hd)
def pf_begin (B : zB) (num : Int32) (G : zG) (s g z : Int32) (t : Bool) : zB × zG := match G with
  | (ad, bz, nt, o, la, ou, x0, x1, de, st, nm, hd) => ((pc_ibegin B num ad bz x1 s g z t).1, (ad, bz, nt, o, la, ou, x0, (pc_ibegin B num ad bz x1 s g z t).2, de, st, nm, hd))
def pf_opening (B : zB) (num : Int32) (G : zG) (s g : Int32) (d : Int64) (t : Bool) : zB × zG :=
  if nI 2 ≤ nI (pf_count (pf_drop G s t)) then
    if t = true then (B, pf_drop G s t) else (pc_put B num (pf_drop G s t).1 (nI 485228544) s (pc_abt (nI 2) g), pf_drop G s t)
  else pf_begin B num (pf_room (pf_drop G s t)) s g (pc_fb d (nI 2) + (pc_fb d (nI 3) <<< (nI 8 &&& 31))) t
def pf_abort (G : zG) (s g : Int32) : zG := match G with
  | (ad, bz, nt, o, la, ou, x0, x1, de, st, nm, hd) => (ad, bz, nt, o, la, ou, if pc_isFrom x0 s false = true ∧ x0.1.2.2.1 = g then pc_iend x0 else x0, if pc_isFrom x1 s false = true ∧ x1.1.2.2.1 = g then pc_iend x1 else x1, de, st, nm, hd)
/-- a packet comes to a session: the bus, the session, the latest message, the deliveries -/
def pf_pkt (B : zB) (num ad : Int32) (bz : Bool) (x : zIn) (la : zMs) (de : Int32) (s : Int32) (t : Bool) (d : Int64) : zB × zIn × zMs × Int32 :=
  if pc_isFrom x s t = true then
    if t = true then
      if (pc_takeAll B x d).1 = true then (B, (pc_takeAll B x d).2, pc_copy la (pc_takeAll B x d).2.1, de + nI 1) else (B, (pc_takeAll B x d).2, la, de)
    else
      if (pc_takeDir B num ad bz x d).1 = true then ((pc_takeDir B num ad bz x d).2.1, (pc_takeDir B num ad bz x d).2.2, pc_copy la (pc_takeDir B num ad bz x d).2.2.1, de + nI 1) else ((pc_takeDir B num ad bz x d).2.1, (pc_takeDir B num ad bz x d).2.2, la, de)
  else (B, x, la, de)
def pf_packet (B : zB) (num : Int32) (G : zG) (s : Int32) (t : Bool) (d : Int64) : zB × zG := match G with
  | (ad, bz, nt, o, la, ou, x0, x1, de, st, nm, hd) => match pf_pkt B num ad bz x0 la de s t d with
    | (B1, x0', la1, de1) => match pf_pkt B1 num ad bz x1 la1 de1 s t d with
      | (B2, x1', la2, de2) => (B2, (ad, bz, nt, o, la2, ou, x0', x1', de2, st, nm, hd))
def pf_setOu (G : zG) (ou : zOu) : zG := match G with
  | (ad, bz, nt, o, la, _, x0, x1, de, st, nm, hd) => (ad, bz, nt, o, la, ou, x0, x1, de, st, nm, hd)
def pf_group (d : Int64) : Int32 := (d.toUInt64 >>> ((nI 40).toInt64.toUInt64 &&& Int64.toUInt64 63)).toInt64.toInt32
def pf_control (B : zB) (num : Int32) (G : zG) (s : Int32) (d : Int64) : zB × zG := match G with
  | (ad, bz, nt, o, la, ou, x0, x1, de, st, nm, hd) =>
    if pc_fb d (nI 1) = nI 16 then pf_opening B num G s (pf_group d) d false
    else if pc_fb d (nI 1) = nI 32 then pf_opening B num G s (pf_group d) d true
    else if pc_fb d (nI 1) = nI 17 ∧ pc_isWith ou s (pf_group d) = true then
      ((pc_takeGrant B num ad ou (pc_fb d (nI 2)).toNatClampNeg (pc_fb d (nI 3)).toNatClampNeg (pc_pk ou.2.2.2.2.1).toNatClampNeg).1, pf_setOu G (pc_takeGrant B num ad ou (pc_fb d (nI 2)).toNatClampNeg (pc_fb d (nI 3)).toNatClampNeg (pc_pk ou.2.2.2.2.1).toNatClampNeg).2)
    else if pc_fb d (nI 1) = nI 19 ∧ pc_isWith ou s (pf_group d) = true then (B, pf_setOu G (pc_oend ou (nI 10)))
    else if pc_fb d (nI 1) = nI 255 then
      if pc_isWith ou s (pf_group d) = true then (B, pf_abort (pf_setOu G (pc_oend ou (nI 20 + pc_fb d (nI 2)))) s (pf_group d)) else (B, pf_abort G s (pf_group d))
    else (B, G)
def pf_reach (B : zB) (num : Int32) (G : zG) (s : Nat) (id : Int32) (d : Int64) : zB × zG := match G with
  | (ad, bz, nt, o, la, ou, x0, x1, de, st, nm, hd) =>
    if (id >>> (nI 16 &&& 31)) &&& nI 1023 = nI 238 then
      if st = 0 then (B, G) else pf_takeClaim B num G s (id &&& nI 255) d
    else if (id >>> (nI 16 &&& 31)) &&& nI 1023 = nI 234 then
      if st = 0 then (B, G) else (pc_put B num ad (nI 418250752) (nI 255) nm, G)
    else if st = nI 2 ∧ ((id >>> (nI 8 &&& 31)) &&& nI 255 = nI 255 ∨ (id >>> (nI 8 &&& 31)) &&& nI 255 = ad) then
      if (id >>> (nI 16 &&& 31)) &&& nI 1023 = nI 236 then pf_control B num G (id &&& nI 255) d
      else pf_packet B num G (id &&& nI 255) (decide ((id >>> (nI 8 &&& 31)) &&& nI 255 = nI 255)) d
    else (B, G)
