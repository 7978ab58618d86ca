/-! The five functions together. -/
def hF (H : Nat → zG) : Nat → zFn := fun g => gx (H g)
theorem gx_eq (G : zG) : gx G = (G.1, G.2.1, G.2.2.1, G.2.2.2.1, G.2.2.2.2.1, G.2.2.2.2.2.1, tw G.2.2.2.1 G.2.2.2.2.2.2.1 G.2.2.2.2.2.2.2.1, G.2.2.2.2.2.2.2.2.1, G.2.2.2.2.2.2.2.2.2.1, G.2.2.2.2.2.2.2.2.2.2.1, G.2.2.2.2.2.2.2.2.2.2.2) := rfl
theorem hF_foc (H : Nat → zG) (f : Nat) (G : zG) : foc (hF H) f (gx G) = hF (foc H f G) := by
  funext g
  unfold hF foc
  by_cases h : g = f
  · rw [if_pos h, if_pos h]
  · rw [if_neg h, if_neg h]
theorem hF_self (H : Nat → zG) (f : Nat) : foc (hF H) f (gx (H f)) = hF H := by rw [hF_foc, foc_self]
theorem hF_at {b : Nat} {B : zB} {H : Nat → zG} {D : zMd} (f : Nat) : zs b (B, foc (hF H) f (gx (H f)), D) = zs b (B, hF H, D) := by rw [hF_self]
section ZA
variable {E : zxE} {b f n : Nat} {H : Nat → zG} {D : zMd} {B : zB} {Q : Option Value → zxH → Nat → Prop}
theorem ah_f0 (hf : f < 5) : zs b (B, hF H, D) (fa b f 0) = some (.inr (1, [.ref (b + 1), .ref (fa b f 1), .ref (fa b f 2), .ref (fa b f 6), .ref (fa b f 3), .ref (fa b f 4), .int (H f).2.2.2.2.2.2.2.2.1, .int (H f).2.2.2.2.2.2.2.2.2.1, .long (H f).2.2.2.2.2.2.2.2.2.2.1, .long (H f).2.2.2.2.2.2.2.2.2.2.2])) := by
  rw [← hF_at f]
  exact at_f0 hf
theorem ah_f1 (hf : f < 5) : zs b (B, hF H, D) (fa b f 1) = some (.inr (5, [.int (nI f), .int (H f).1, .int (zb (H f).2.1)])) := by
  rw [← hF_at f]
  exact at_f1 hf
theorem ah_f2 (hf : f < 5) : zs b (B, hF H, D) (fa b f 2) = some (.inl (0, 5, .inl (H f).2.2.1)) := by
  rw [← hF_at f]
  exact at_f2 hf
theorem ah_f4 (hf : f < 5) : zs b (B, hF H, D) (fa b f 4) = some (.inr (3, [.ref (fa b f 5), .int (H f).2.2.2.2.1.2.1, .int (H f).2.2.2.2.1.2.2.1, .int (H f).2.2.2.2.1.2.2.2.1, .int (zb (H f).2.2.2.2.1.2.2.2.2)])) := by
  rw [← hF_at f]
  exact at_f4 hf
theorem ah_f6 (hf : f < 5) : zs b (B, hF H, D) (fa b f 6) = some (.inr (4, [.ref (b + 1), .ref (fa b f 1), .int (H f).2.2.2.2.2.1.1, .int (H f).2.2.2.2.2.1.2.1, .int (H f).2.2.2.2.2.1.2.2.1, .int (H f).2.2.2.2.2.1.2.2.2.1, .int (H f).2.2.2.2.2.1.2.2.2.2.1, .long (H f).2.2.2.2.2.1.2.2.2.2.2.1, .int (H f).2.2.2.2.2.1.2.2.2.2.2.2.1, .long (H f).2.2.2.2.2.1.2.2.2.2.2.2.2])) := by
  rw [← hF_at f]
  exact at_f6 hf
def pa_setBz (G : zG) (x : Bool) : zG := (G.1, x, G.2.2)
theorem uh_f1 {x : Bool} (hf : f < 5) : zx_up (zs b (B, hF H, D)) (fa b f 1) (.inr (5, [.int (nI f), .int (H f).1, .int (zb x)])) = zs b (B, hF (foc H f (pa_setBz (H f) x)), D) := by
  rw [← hF_foc, ← hF_at f]
  exact up_f1 hf
theorem ah_nextDue (hf : f < 5) (ho : (H f).2.2.2.1 ≤ 1) (hq : ∀ r, pf_nextDue (H f) = r → Q (some (.long r)) (zs b (B, hF H, D)) n) : zx_Ok E my_Fu_nextDue mi_Fu_nextDue [.ref (fa b f 0)] (zs b (B, hF H, D)) n Q := by
  rw [← hF_at f]
  exact ok_Fu_nextDue hf ho (fun r he => by have z := hq r he; rw [← hF_at f] at z; exact z)
theorem ah_count (hf : f < 5) (ho : (H f).2.2.2.1 ≤ 1) (hq : ∀ r, pf_count (H f) = r → Q (some (.int (nI r))) (zs b (B, hF H, D)) n) : zx_Ok E my_Fu_countIncoming mi_Fu_countIncoming [.ref (fa b f 0)] (zs b (B, hF H, D)) n Q := by
  rw [← hF_at f]
  exact ok_Fu_countIncoming hf ho (fun r he => by have z := hq r he; rw [← hF_at f] at z; exact z)
theorem ah_can {t : Int32} (hf : f < 5) (hq : ∀ r, pf_can (H f) t = r → Q (some (.int (zb r))) (zs b (B, hF H, D)) n) : zx_Ok E my_Fu_canSendTo mi_Fu_canSendTo [.ref (fa b f 0), .int t] (zs b (B, hF H, D)) n Q := by
  rw [← hF_at f]
  exact ok_Fu_canSendTo hf (fun r he => by have z := hq r he; rw [← hF_at f] at z; exact z)
theorem ah_on {name : Int64} {a : Int32} (hf : f < 5) (hw : B.2.2.2.1 ≤ 48) (hq : ∀ B' G', pf_on B (nI f) (H f) name a = (B', G') → B'.2.2.2.1 ≤ 48 → Q none (zs b (B', hF (foc H f G'), D)) n) : zx_Ok E my_Fu_switchOn mi_Fu_switchOn [.ref (fa b f 0), .long name, .int a] (zs b (B, hF H, D)) n Q := by
  rw [← hF_at f]
  exact ok_Fu_switchOn hf hw (fun B' ad' bz' nt' o' la' ou' x0' x1' de' st' nm' hd' he hw' => by have z := hq B' (ad', bz', nt', o', la', ou', x0', x1', de', st', nm', hd') he hw'; rw [← hF_foc] at z; exact z)
theorem ah_off (hf : f < 5) (ho : (H f).2.2.2.1 ≤ 1) (hw : B.2.2.2.1 ≤ 48) (hq : ∀ B' G', pf_off B (nI f) (H f) = (B', G') → Q none (zs b (B', hF (foc H f G'), D)) n) : zx_Ok E my_Fu_switchOff mi_Fu_switchOff [.ref (fa b f 0)] (zs b (B, hF H, D)) n Q := by
  rw [← hF_at f]
  exact ok_Fu_switchOff hf ho hw (fun B' ad' bz' nt' o' la' ou' x0' x1' de' st' nm' hd' he => by have z := hq B' (ad', bz', nt', o', la', ou', x0', x1', de', st', nm', hd') he; rw [← hF_foc] at z; exact z)
theorem ah_goOff (hf : f < 5) (ho : (H f).2.2.2.1 ≤ 1) (hw : B.2.2.2.1 ≤ 48) (hq : ∀ B' G', pf_goOff B (nI f) (H f) = (B', G') → B'.2.2.2.1 ≤ 48 → Q none (zs b (B', hF (foc H f G'), D)) n) : zx_Ok E my_Fu_goOff mi_Fu_goOff [.ref (fa b f 0)] (zs b (B, hF H, D)) n Q := by
  rw [← hF_at f]
  exact ok_Fu_goOff hf ho hw (fun B' ad' bz' nt' o' la' ou' x0' x1' de' st' nm' hd' he hw' => by have z := hq B' (ad', bz', nt', o', la', ou', x0', x1', de', st', nm', hd') he hw'; rw [← hF_foc] at z; exact z)
theorem ah_reach {s : Nat} {id : Int32} {d : Int64} (hf : f < 5) (ho : (H f).2.2.2.1 ≤ 1) (hw : B.2.2.2.1 ≤ 48) (hpk : ∃ s : Nat, s < 256 ∧ pc_pk (H f).2.2.2.2.2.1.2.2.2.2.1 = nI s) (hex0 : (H f).2.2.2.2.2.2.1.2.2.2.1 < 100000) (hex1 : (H f).2.2.2.2.2.2.2.1.2.2.2.1 < 100000) (hs : s < 5) (hq : ∀ B' G', pf_reach B (nI f) (H f) s id d = (B', G') → B'.2.2.2.1 ≤ 48 → Q none (zs b (B', hF (foc H f G'), D)) n) : zx_Ok E my_Fu_reach mi_Fu_reach [.ref (fa b f 0), .int (nI s), .int id, .long d] (zs b (B, hF H, D)) n Q := by
  rw [← hF_at f]
  exact ok_Fu_reach hf ho hw hpk hex0 hex1 hs (fun B' ad' bz' nt' o' la' ou' x0' x1' de' st' nm' hd' he hw' => by have z := hq B' (ad', bz', nt', o', la', ou', x0', x1', de', st', nm', hd') he hw'; rw [← hF_foc] at z; exact z)
theorem ah_begin {tg gr si : Int32} {se : Int64} (hf : f < 5) (hw : B.2.2.2.1 ≤ 48) (hq : ∀ B' x', pc_obegin B (nI f) (H f).1 (H f).2.2.2.2.2.1 tg gr si se = (B', x') → Q none (zs b (B', hF (foc H f (pf_setOu (H f) x')), D)) n) : zx_Ok E my_Ou_begin mi_Ou_begin [.ref (fa b f 6), .int tg, .int gr, .int si, .long se] (zs b (B, hF H, D)) n Q := by
  rw [← hF_at f]
  exact ok_Ou_begin hf hw (fun B' x' he _ => by have z := hq B' x' he; rw [← hF_foc] at z; exact z)
theorem ah_byteAt {i : Int32} (hf : f < 5) (hq : ∀ r, pc_byteAt (H f).2.2.2.2.1 i = r → Q (some (.int r)) (zs b (B, hF H, D)) n) : zx_Ok E my_Ms_byteAt mi_Ms_byteAt [.ref (fa b f 4), .int i] (zs b (B, hF H, D)) n Q := by
  rw [← hF_at f]
  exact ok_Ms_byteAt hf (fun r he => by have z := hq r he; rw [← hF_at f] at z; exact z)
theorem ah_put {head tgt : Int32} {d : Int64} (hf : f < 5) (hw : B.2.2.2.1 ≤ 48) (hq : ∀ B', pc_put B (nI f) (H f).1 head tgt d = B' → B'.2.2.2.1 ≤ 48 → Q none (zs b (B', hF H, D)) n) : zx_Ok E my_Bu_put mi_Bu_put [.ref (b + 1), .ref (fa b f 1), .int head, .int tgt, .long d] (zs b (B, hF H, D)) n Q := by
  rw [← hF_at f]
  exact ok_Bu_put hf hw (fun B' he hw' => by have z := hq B' he hw'; rw [← hF_at f] at z; exact z)
end ZA
/-! What the calls of the face do, in numbers. -/
def pa_isF (x : Int32) : Bool := !decide (x < 0) && !decide (nI 5 ≤ x)
theorem pa_isF_n {x : Int32} (h : pa_isF x = true) : ∃ f : Nat, f < 5 ∧ x = nI f := by
  simp only [pa_isF, Bool.and_eq_true, Bool.not_eq_true', decide_eq_false_iff_not] at h
  obtain ⟨j, hj, rfl⟩ := nI_of h.1
  refine ⟨j, ?_, rfl⟩
  by_cases g : j < 5
  · exact g
  · exact absurd ((nI_leI (by decide) hj).mpr (by omega)) h.2
theorem pa_isF_f {f : Nat} (h : f < 5) : pa_isF (nI f) = true := by
  match f, h with
  | 0, _ => decide
  | 1, _ => decide
  | 2, _ => decide
  | 3, _ => decide
  | 4, _ => decide
def pa_isOn (H : Nat → zG) (x : Int32) : Bool := pa_isF x && !decide ((H x.toNatClampNeg).2.2.2.2.2.2.2.2.2.1 = 0)
theorem pa_isOn_n {H : Nat → zG} {x : Int32} (h : pa_isOn H x = true) : ∃ f : Nat, f < 5 ∧ x = nI f := by
  simp only [pa_isOn, Bool.and_eq_true] at h
  exact pa_isF_n h.1
def pa_has (H : Nat → zG) (x : Int32) : Bool := pa_isOn H x && decide (0 < (H x.toNatClampNeg).2.2.2.2.2.2.2.2.1)
theorem pa_has_n {H : Nat → zG} {x : Int32} (h : pa_has H x = true) : ∃ f : Nat, f < 5 ∧ x = nI f := by
  simp only [pa_has, Bool.and_eq_true] at h
  exact pa_isOn_n h.1
theorem pa_cl {f : Nat} (h : f < 5) : (nI f).toNatClampNeg = f := nI_clamp (by omega)
def pa_tk (H : Nat → zG) (name : Int64) : Nat → Bool
  | 0 => false
  | k + 1 => pa_tk H name k || (!decide ((H k).2.2.2.2.2.2.2.2.2.1 = 0) && decide ((H k).2.2.2.2.2.2.2.2.2.2.1 = name))
theorem pa_tk_up {H : Nat → zG} {name : Int64} {i : Nat} (h : pa_tk H name i = true) : ∀ k, pa_tk H name (i + k) = true
  | 0 => h
  | k + 1 => by
    show (pa_tk H name (i + k) || _) = true
    rw [pa_tk_up h k]
    rfl
def pa_start (B : zB) (H : Nat → zG) (x : Int32) (name : Int64) (a : Int32) : Bool × zB × (Nat → zG) :=
  if pa_isF x = true ∧ pa_isOn H x = false ∧ ¬ a < 0 ∧ ¬ nI 253 < a ∧ pa_tk H name 5 = false then
    (true, (pf_on B x (H x.toNatClampNeg) name a).1, foc H x.toNatClampNeg (pf_on B x (H x.toNatClampNeg) name a).2)
  else (false, B, H)
def pa_stop (B : zB) (H : Nat → zG) (x : Int32) : Bool × zB × (Nat → zG) :=
  if pa_isOn H x = true then (true, (pf_off B x (H x.toNatClampNeg)).1, foc H x.toNatClampNeg (pf_off B x (H x.toNatClampNeg)).2) else (false, B, H)
def pa_busy (H : Nat → zG) (x : Int32) (y : Bool) : Bool × (Nat → zG) :=
  if pa_isF x = true ∧ ¬ (H x.toNatClampNeg).2.1 = y then (true, foc H x.toNatClampNeg (pa_setBz (H x.toNatClampNeg) y)) else (false, H)
def pa_state (H : Nat → zG) (x : Int32) : Int32 := if pa_isF x = true then (H x.toNatClampNeg).2.2.2.2.2.2.2.2.2.1 else -1
def pa_address (H : Nat → zG) (x : Int32) : Int32 := if pa_isOn H x = true then (H x.toNatClampNeg).1 else -1
def pa_noted (H : Nat → zG) (x y : Int32) : Int32 := if pa_isOn H x = true ∧ pa_isF y = true then (H x.toNatClampNeg).2.2.1 y.toNatClampNeg else -1
def pa_request (B : zB) (H : Nat → zG) (x : Int32) : Bool × zB :=
  if pa_isOn H x = true then (true, pc_put B x (H x.toNatClampNeg).1 (nI 417988608) (nI 255) (lN 60928)) else (false, B)
def pa_send (B : zB) (H : Nat → zG) (x t g z : Int32) (se : Int64) : Bool × zB × (Nat → zG) :=
  if pa_isF x = true ∧ pf_can (H x.toNatClampNeg) t = true ∧ ¬ g < 0 ∧ ¬ nI 262143 < g ∧ ¬ z < nI 9 ∧ z ≤ nI 49 then
    (true, (pc_obegin B x (H x.toNatClampNeg).1 (H x.toNatClampNeg).2.2.2.2.2.1 t g z se).1, foc H x.toNatClampNeg (pf_setOu (H x.toNatClampNeg) (pc_obegin B x (H x.toNatClampNeg).1 (H x.toNatClampNeg).2.2.2.2.2.1 t g z se).2))
  else (false, B, H)
def pa_identifier (B : zB) : Int32 := if B.2.2.2.1 = 0 then -1 else B.1 (pc_least B.1 (B.2.2.2.1 - 1))
def pa_data (B : zB) : Int64 := if B.2.2.2.1 = 0 then lN 0 else B.2.1 (pc_least B.1 (B.2.2.2.1 - 1))
def pa_lose (B : zB) : Bool × zB := if B.2.2.2.1 = 0 then (false, B) else (true, pc_take B (pc_least B.1 (B.2.2.2.1 - 1)))
/-- the functions from 0 on, up to k, but s, are reached -/
def pa_reach (s : Nat) (id : Int32) (d : Int64) : Nat → zB → (Nat → zG) → zB × (Nat → zG)
  | 0, B, H => (B, H)
  | k + 1, B, H => match pa_reach s id d k B H with
    | (B1, H1) => if k = s then (B1, H1) else ((pf_reach B1 (nI k) (H1 k) s id d).1, foc H1 k (pf_reach B1 (nI k) (H1 k) s id d).2)
def pa_deliver (B : zB) (H : Nat → zG) (keep : Bool) (s : Nat) : Bool × zB × (Nat → zG) :=
  if B.2.2.2.1 = 0 then (false, B, H)
  else (true, pa_reach s (B.1 (pc_least B.1 (B.2.2.2.1 - 1))) (B.2.1 (pc_least B.1 (B.2.2.2.1 - 1))) 5 (if keep = true then B else pc_take B (pc_least B.1 (B.2.2.2.1 - 1))) H)
def pa_first (H : Nat → zG) : Nat → Nat
  | 0 => 0
  | k + 1 => if pf_nextDue (H (k + 1)) < pf_nextDue (H (pa_first H k)) then k + 1 else pa_first H k
theorem pa_first_le (H : Nat → zG) : ∀ k, pa_first H k ≤ k
  | 0 => Nat.le_refl _
  | k + 1 => by
    have := pa_first_le H k
    unfold pa_first
    split <;> omega
def pa_setNow (B : zB) (t : Int64) : zB := (B.1, B.2.1, B.2.2.1, B.2.2.2.1, B.2.2.2.2.1, t)
/-- the timers that are due up to e go off, k at most: how many did, and what is then -/
def pa_offs (e : Int64) : Nat → Nat → zB → (Nat → zG) → Nat × zB × (Nat → zG)
  | 0, c, B, H => (c, B, H)
  | k + 1, c, B, H =>
    if e < pf_nextDue (H (pa_first H 4)) then (c, B, H)
    else match pf_goOff (pa_setNow B (pf_nextDue (H (pa_first H 4)))) (nI (pa_first H 4)) (H (pa_first H 4)) with
      | (B1, G1) => pa_offs e k (c + 1) B1 (foc H (pa_first H 4) G1)
def pa_tick (B : zB) (H : Nat → zG) (ms : Int32) : Int32 × zB × (Nat → zG) :=
  if ms < nI 1 then (-1, B, H) else if ms ≤ nI 2000 then
    match pa_offs (B.2.2.2.2.2 + ms.toInt64) 1000 0 B H with
    | (c, B1, H1) => (nI c, pa_setNow B1 (B.2.2.2.2.2 + ms.toInt64), H1)
  else (-1, B, H)
def pa_outgoing (H : Nat → zG) (x : Int32) : Int32 :=
  if pa_isOn H x = true then (if (H x.toNatClampNeg).2.2.2.2.2.1.1 = 0 then (H x.toNatClampNeg).2.2.2.2.2.1.2.1 else (H x.toNatClampNeg).2.2.2.2.2.1.1) else -1
def pa_incoming (H : Nat → zG) (x : Int32) : Int32 := if pa_isOn H x = true then nI (pf_count (H x.toNatClampNeg)) else -1
def pa_delivered (H : Nat → zG) (x : Int32) : Int32 := if pa_isOn H x = true then (H x.toNatClampNeg).2.2.2.2.2.2.2.2.1 else -1
def pa_message (H : Nat → zG) (x y : Int32) : Int32 :=
  if pa_has H x = true then
    (if y = nI 0 then (H x.toNatClampNeg).2.2.2.2.1.2.1 else if y = nI 1 then (H x.toNatClampNeg).2.2.2.2.1.2.2.1 else if y = nI 2 then (H x.toNatClampNeg).2.2.2.2.1.2.2.2.1 else if y = nI 3 then zb (H x.toNatClampNeg).2.2.2.2.1.2.2.2.2 else -1)
  else -1
def pa_byteOf (H : Nat → zG) (x y : Int32) : Int32 := if pa_has H x = true then pc_byteAt (H x.toNatClampNeg).2.2.2.2.1 y else -1
