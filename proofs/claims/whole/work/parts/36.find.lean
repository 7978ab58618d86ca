/-! Which session a frame is for; packets and aborts. -/
def SIM (t f : Nat) (D : zMd) (P : zB × zG) (D' : zMd) : Prop := RB t P.1 D' ∧ Fr f D D' ∧ RV t P.2 (vw D' f)
theorem RV.src2 {t f : Nat} {G : zG} {D : zMd} (h : RV t G (vw D f)) (h2 : G.2.2.2.2.2.2.2.2.2.1 = nI 2) : ∃ a, a ≤ 253 ∧ G.1 = nI a ∧ pm_src D.2.2.2.1 f = nI a ∧ D.2.2.2.1 1 f = nI a := by
  obtain ⟨ad, bz, nt, o, la, ou, x0, x1, de, st, nm, hd⟩ := G
  obtain ⟨a1, a2, a3, a4, a5, a6, a7, a8, a9⟩ := h
  have h2 : st = nI 2 := h2
  have a3 : D.2.2.2.1 0 f = st := a3
  subst h2
  rcases a6 with ⟨q, -⟩ | ⟨q, -⟩ | ⟨-, ⟨a, q1, q2, q3⟩, -⟩ | ⟨q, -⟩
  · exact absurd q (by decide)
  · exact absurd q (by decide)
  · refine ⟨a, q1, q2, ?_, q3⟩
    unfold pm_src
    rw [a3, if_neg (by decide)]
    exact q3
  · exact absurd q (by decide)
theorem RV.srcN {t f : Nat} {G : zG} {D : zMd} (h : RV t G (vw D f)) (h2 : ¬ G.2.2.2.2.2.2.2.2.2.1 = nI 0) : ∃ a, a ≤ 254 ∧ G.1 = nI a ∧ pm_src D.2.2.2.1 f = nI a := by
  obtain ⟨ad, bz, nt, o, la, ou, x0, x1, de, st, nm, hd⟩ := G
  obtain ⟨a1, a2, a3, a4, a5, a6, a7, a8, a9⟩ := h
  have h2 : ¬ st = nI 0 := h2
  have a3 : D.2.2.2.1 0 f = st := a3
  unfold pm_src
  rw [a3]
  rcases a6 with ⟨q, -⟩ | ⟨q, ⟨a, q1, q2, q3⟩, -⟩ | ⟨q, ⟨a, q1, q2, q3⟩, -⟩ | ⟨q, q2, -⟩
  · exact absurd q h2
  · refine ⟨a, by omega, q2, ?_⟩
    rw [q, if_neg (by decide)]
    exact q3
  · refine ⟨a, by omega, q2, ?_⟩
    rw [q, if_neg (by decide)]
    exact q3
  · refine ⟨254, by decide, q2, ?_⟩
    rw [q, if_pos rfl]
theorem RV.bz {t f : Nat} {G : zG} {D : zMd} (h : RV t G (vw D f)) : D.2.2.2.1 3 f = zb G.2.1 := by
  obtain ⟨ad, bz, nt, o, la, ou, x0, x1, de, st, nm, hd⟩ := G
  exact h.2.1
theorem RV.st {t f : Nat} {G : zG} {D : zMd} (h : RV t G (vw D f)) : D.2.2.2.1 0 f = G.2.2.2.2.2.2.2.2.2.1 := by
  obtain ⟨ad, bz, nt, o, la, ou, x0, x1, de, st, nm, hd⟩ := G
  exact h.2.2.1
theorem RV.n {t f : Nat} {G : zG} {D : zMd} (h : RV t G (vw D f)) : D.2.2.2.1 17 f = nI (oc (gses 0 G) + oc (gses 1 G)) := by
  obtain ⟨ad, bz, nt, o, la, ou, x0, x1, de, st, nm, hd⟩ := G
  exact h.2.2.2.2.2.2.2.1.1
theorem RV.diff {t f : Nat} {G : zG} {D : zMd} {src : Int32} {tb : Bool} (h : RV t G (vw D f)) (h0 : pc_isFrom (gses 0 G) src tb = true) : pc_isFrom (gses 1 G) src tb = false := by
  obtain ⟨ad, bz, nt, o, la, ou, x0, x1, de, st, nm, hd⟩ := G
  obtain ⟨-, -, -, -, -, -, -, ⟨-, -, -, b4, -⟩, -⟩ := h
  have h0 : pc_isFrom x0 src tb = true := h0
  show pc_isFrom x1 src tb = false
  apply ts_nt
  intro h1
  simp only [pc_isFrom, Bool.and_eq_true, decide_eq_true_eq] at h0 h1
  exact b4 h0.1.1 h1.1.1 ⟨h0.1.2.trans h1.1.2.symm, h0.2.trans h1.2.symm⟩
theorem SS.from {t s : Nat} {x : zIn} {I : Nat → Nat → Int32} {src : Int32} {tb : Bool} (h : SS t x (slv I s)) : (I 19 s = src ∧ I 18 s = zb tb) ↔ pc_isFrom x src tb = true := by
  obtain ⟨⟨pk, so, gr, si, ta⟩, op, he, ex, lt, ak, du⟩ := x
  obtain ⟨⟨h1, h2, h3, -⟩, -⟩ := h
  have h1 : op = true := h1
  have h2 : I 18 s = zb ta := h2
  have h3 : I 19 s = so := h3
  simp only [pc_isFrom, Bool.and_eq_true, decide_eq_true_eq]
  rw [h2, h3, zb_eq]
  constructor
  · exact fun z => ⟨⟨h1, z.1⟩, z.2⟩
  · exact fun z => ⟨z.1.2, z.2⟩
theorem from_open {x : zIn} {src : Int32} {tb : Bool} (h : pc_isFrom x src tb = true) : x.2.1 = true := by
  simp only [pc_isFrom, Bool.and_eq_true, decide_eq_true_eq] at h
  exact h.1.1
theorem find_n {t f : Nat} {G : zG} {D : zMd} (h : RV t G (vw D f)) (src : Int32) (tb : Bool) : pm_findK D.2.2.2.1 src (zb tb) (oc (gses 0 G) + oc (gses 1 G)) (2 * f) = if pc_isFrom (gses 0 G) src tb = true then nI (2 * f + gpl 0 G) else if pc_isFrom (gses 1 G) src tb = true then nI (2 * f + gpl 1 G) else -1 := by
  by_cases g0 : (gses 0 G).2.1 = true
  · have s0 := SS.from (src := src) (tb := tb) ((vw_slot (D := D) (f := f) (c := gpl 0 G) (gpl_lt 0 G)) ▸ RS.at (r := 0) h g0)
    have p0 : gpl 0 G = 0 := rfl
    rw [p0, Nat.add_zero] at s0 ⊢
    by_cases g1 : (gses 1 G).2.1 = true
    · have s1 := SS.from (src := src) (tb := tb) ((vw_slot (D := D) (f := f) (c := gpl 1 G) (gpl_lt 1 G)) ▸ RS.at (r := 1) h g1)
      have p1 : gpl 1 G = 1 := by
        unfold gpl
        rw [if_neg (by decide)]
        exact if_pos g0
      rw [p1] at s1 ⊢
      rw [oc_1 g0, oc_1 g1]
      unfold pm_findK
      by_cases q0 : pc_isFrom (gses 0 G) src tb = true
      · rw [if_pos (s0.mpr q0), if_pos q0]
      · rw [if_neg (fun z => q0 (s0.mp z)), if_neg q0]
        unfold pm_findK
        by_cases q1 : pc_isFrom (gses 1 G) src tb = true
        · rw [if_pos (s1.mpr q1), if_pos q1]
        · rw [if_neg (fun z => q1 (s1.mp z)), if_neg q1]
          rfl
    · rw [oc_1 g0, oc_0 (ts_nt g1)]
      unfold pm_findK
      by_cases q0 : pc_isFrom (gses 0 G) src tb = true
      · rw [if_pos (s0.mpr q0), if_pos q0]
      · rw [if_neg (fun z => q0 (s0.mp z)), if_neg q0, if_neg (fun z => g1 (from_open z))]
        rfl
  · have n0 : ¬ pc_isFrom (gses 0 G) src tb = true := fun z => g0 (from_open z)
    rw [if_neg n0, oc_0 (ts_nt g0)]
    by_cases g1 : (gses 1 G).2.1 = true
    · have s1 := SS.from (src := src) (tb := tb) ((vw_slot (D := D) (f := f) (c := gpl 1 G) (gpl_lt 1 G)) ▸ RS.at (r := 1) h g1)
      have p1 : gpl 1 G = 0 := by
        unfold gpl
        rw [if_neg (by decide)]
        exact if_neg g0
      rw [p1, Nat.add_zero] at s1 ⊢
      rw [oc_1 g1]
      unfold pm_findK
      by_cases q1 : pc_isFrom (gses 1 G) src tb = true
      · rw [if_pos (s1.mpr q1), if_pos q1]
      · rw [if_neg (fun z => q1 (s1.mp z)), if_neg q1]
        rfl
    · rw [oc_0 (ts_nt g1), if_neg (fun z => g1 (from_open z))]
      rfl
theorem RV.at2 {t f r : Nat} {G : zG} {D : zMd} (h : RV t G (vw D f)) (ho : (gses r G).2.1 = true) : SS t (gses r G) (slv D.2.2.2.1 (2 * f + gpl r G)) := by
  rw [← vw_slot (gpl_lt r G)]
  exact RS.at h ho
theorem nI_neg {n : Nat} (h : n < 2 ^ 31) : ¬ nI n < 0 := nI_pos h
theorem sim_packet {t f : Nat} {B : zB} {G : zG} {D : zMd} {tg src : Int32} {d : Int64} (hf : f < 5) (hB : RB t B D) (h : RV t G (vw D f)) (h2 : G.2.2.2.2.2.2.2.2.2.1 = nI 2) : SIM t f D (pf_packet B (nI f) G src (decide (tg = nI 255)) d) (pm_packet D f (oc (gses 0 G) + oc (gses 1 G)) tg src d) := by
  obtain ⟨a, ha, ea, hsr, -⟩ := RV.src2 h h2
  have hfd := find_n h src (decide (tg = nI 255))
  have hal : (if tg = nI 255 then nI 1 else nI 0) = zb (decide (tg = nI 255)) := by
    by_cases q : tg = nI 255
    · rw [if_pos q, decide_eq_true q]
      rfl
    · rw [if_neg q, decide_eq_false q]
      rfl
  unfold pm_packet
  rw [hal, hfd]
  have hbz := RV.bz h
  have hgl := gpl_lt 0 G
  have hgl1 := gpl_lt 1 G
  generalize decide (tg = nI 255) = tb at *
  by_cases q0 : pc_isFrom (gses 0 G) src tb = true
  · have q1 := RV.diff h q0
    rw [if_pos q0, if_neg (nI_neg (by omega)), nI_clamp (by omega)]
    have hp := sim_pkt (la := G.2.2.2.2.1) (de := G.2.2.2.2.2.2.2.2.1) (d := d) hB hf hsr ha hbz hgl (RV.at2 h (from_open q0)) q0
    have hr := RV.pres h (from_open q0) hp
    have e : pf_packet B (nI f) G src tb d = ((pf_pkt B (nI f) (nI a) G.2.1 (gses 0 G) G.2.2.2.2.1 G.2.2.2.2.2.2.2.2.1 src tb d).1, gL (pf_pkt B (nI f) (nI a) G.2.1 (gses 0 G) G.2.2.2.2.1 G.2.2.2.2.2.2.2.2.1 src tb d).2.2.1 (pf_pkt B (nI f) (nI a) G.2.1 (gses 0 G) G.2.2.2.2.1 G.2.2.2.2.2.2.2.2.1 src tb d).2.2.2 (gset 0 (pf_pkt B (nI f) (nI a) G.2.1 (gses 0 G) G.2.2.2.2.1 G.2.2.2.2.2.2.2.2.1 src tb d).2.1 G)) := by
      obtain ⟨ad, bz, nt, o, la, ou, x0, x1, de, st, nm, hd⟩ := G
      have ea : ad = nI a := ea
      subst ea
      have q1 : pc_isFrom x1 src tb = false := q1
      unfold pf_packet
      simp only
      have e1 : ∀ B1 la1 de1, pf_pkt B1 (nI f) (nI a) bz x1 la1 de1 src tb d = (B1, x1, la1, de1) := fun B1 la1 de1 => by
        unfold pf_pkt
        rw [if_neg (by rw [q1]; decide)]
      simp only [e1]
      rfl
    rw [e]
    exact hr
  · rw [if_neg q0]
    by_cases q1 : pc_isFrom (gses 1 G) src tb = true
    · rw [if_pos q1, if_neg (nI_neg (by omega)), nI_clamp (by omega)]
      have hp := sim_pkt (la := G.2.2.2.2.1) (de := G.2.2.2.2.2.2.2.2.1) (d := d) hB hf hsr ha hbz hgl1 (RV.at2 h (from_open q1)) q1
      have hr := RV.pres h (from_open q1) hp
      have e : pf_packet B (nI f) G src tb d = ((pf_pkt B (nI f) (nI a) G.2.1 (gses 1 G) G.2.2.2.2.1 G.2.2.2.2.2.2.2.2.1 src tb d).1, gL (pf_pkt B (nI f) (nI a) G.2.1 (gses 1 G) G.2.2.2.2.1 G.2.2.2.2.2.2.2.2.1 src tb d).2.2.1 (pf_pkt B (nI f) (nI a) G.2.1 (gses 1 G) G.2.2.2.2.1 G.2.2.2.2.2.2.2.2.1 src tb d).2.2.2 (gset 1 (pf_pkt B (nI f) (nI a) G.2.1 (gses 1 G) G.2.2.2.2.1 G.2.2.2.2.2.2.2.2.1 src tb d).2.1 G)) := by
        obtain ⟨ad, bz, nt, o, la, ou, x0, x1, de, st, nm, hd⟩ := G
        have ea : ad = nI a := ea
        subst ea
        have q0 : ¬ pc_isFrom x0 src tb = true := q0
        unfold pf_packet
        simp only
        have e1 : pf_pkt B (nI f) (nI a) bz x0 la de src tb d = (B, x0, la, de) := by
          unfold pf_pkt
          rw [if_neg q0]
        simp only [e1]
        rfl
      rw [e]
      exact hr
    · rw [if_neg q1, if_pos (by decide)]
      have e : pf_packet B (nI f) G src tb d = (B, G) := by
        obtain ⟨ad, bz, nt, o, la, ou, x0, x1, de, st, nm, hd⟩ := G
        have q0 : ¬ pc_isFrom x0 src tb = true := q0
        have q1 : ¬ pc_isFrom x1 src tb = true := q1
        have e0 : pf_pkt B (nI f) ad bz x0 la de src tb d = (B, x0, la, de) := by
          unfold pf_pkt
          rw [if_neg q0]
        have e1 : pf_pkt B (nI f) ad bz x1 la de src tb d = (B, x1, la, de) := by
          unfold pf_pkt
          rw [if_neg q1]
        unfold pf_packet
        simp only [e0, e1]
      rw [e]
      exact ⟨hB, Fr.rf, h⟩
/-- a session closes -/
theorem sim_close {t f r : Nat} {B : zB} {G : zG} {D : zMd} (hB : RB t B D) (h : RV t G (vw D f)) (ho : (gses r G).2.1 = true) : SIM t f D (B, gset r (pc_iend (gses r G)) G) (pm_close D f (2 * f + gpl r G)) := by
  have hs := sim_end (f := f) (x := gses r G) hB (gpl_lt r G) (SS.ex (t := t) (RV.at2 h ho).1)
  exact ⟨hs.1, hs.2.1, RV.res h ho hs⟩
theorem gset_id {G : zG} : gset 0 (gses 0 G) G = G ∧ gset 1 (gses 1 G) G = G := by
  obtain ⟨ad, bz, nt, o, la, ou, x0, x1, de, st, nm, hd⟩ := G
  exact ⟨rfl, rfl⟩
theorem RV.grp {t f r : Nat} {G : zG} {D : zMd} (h : RV t G (vw D f)) (ho : (gses r G).2.1 = true) : D.2.2.2.1 20 (2 * f + gpl r G) = (gses r G).1.2.2.1 := by
  have := RV.at2 h ho
  generalize gses r G = x at *
  obtain ⟨⟨pk, so, gr, si, ta⟩, op, he, ex, lt, ak, du⟩ := x
  exact this.1.2.2.2.1
theorem sim_abort {t f : Nat} {B : zB} {G : zG} {D : zMd} {src g : Int32} (hf : f < 5) (hB : RB t B D) (h : RV t G (vw D f)) : SIM t f D (B, pf_abort G src g) (pm_abS D f (if pc_isFrom (gses 0 G) src false = true then nI (2 * f + gpl 0 G) else if pc_isFrom (gses 1 G) src false = true then nI (2 * f + gpl 1 G) else -1) g) := by
  have hgl := gpl_lt 0 G
  have hgl1 := gpl_lt 1 G
  unfold pm_abS
  by_cases q0 : pc_isFrom (gses 0 G) src false = true
  · have q1 := RV.diff h q0
    rw [if_pos q0, if_neg (nI_neg (by omega)), nI_clamp (by omega), RV.grp h (from_open q0)]
    by_cases q2 : (gses 0 G).1.2.2.1 = g
    · rw [if_pos q2]
      have e : pf_abort G src g = gset 0 (pc_iend (gses 0 G)) G := by
        obtain ⟨ad, bz, nt, o, la, ou, x0, x1, de, st, nm, hd⟩ := G
        have q0 : pc_isFrom x0 src false = true := q0
        have q1 : pc_isFrom x1 src false = false := q1
        have q2 : x0.1.2.2.1 = g := q2
        unfold pf_abort
        simp only
        rw [if_pos ⟨q0, q2⟩, if_neg (fun z => by rw [q1] at z; exact absurd z.1 (by decide))]
        rfl
      rw [e]
      exact sim_close hB h (from_open q0)
    · rw [if_neg q2]
      have e : pf_abort G src g = G := by
        obtain ⟨ad, bz, nt, o, la, ou, x0, x1, de, st, nm, hd⟩ := G
        have q1 : pc_isFrom x1 src false = false := q1
        have q2 : ¬ x0.1.2.2.1 = g := q2
        unfold pf_abort
        simp only
        rw [if_neg (fun z => q2 z.2), if_neg (fun z => by rw [q1] at z; exact absurd z.1 (by decide))]
      rw [e]
      exact ⟨hB, Fr.rf, h⟩
  · rw [if_neg q0]
    by_cases q1 : pc_isFrom (gses 1 G) src false = true
    · rw [if_pos q1, if_neg (nI_neg (by omega)), nI_clamp (by omega), RV.grp h (from_open q1)]
      by_cases q2 : (gses 1 G).1.2.2.1 = g
      · rw [if_pos q2]
        have e : pf_abort G src g = gset 1 (pc_iend (gses 1 G)) G := by
          obtain ⟨ad, bz, nt, o, la, ou, x0, x1, de, st, nm, hd⟩ := G
          have q0 : ¬ pc_isFrom x0 src false = true := q0
          have q1 : pc_isFrom x1 src false = true := q1
          have q2 : x1.1.2.2.1 = g := q2
          unfold pf_abort
          simp only
          rw [if_neg (fun z => q0 z.1), if_pos ⟨q1, q2⟩]
          rfl
        rw [e]
        exact sim_close hB h (from_open q1)
      · rw [if_neg q2]
        have e : pf_abort G src g = G := by
          obtain ⟨ad, bz, nt, o, la, ou, x0, x1, de, st, nm, hd⟩ := G
          have q0 : ¬ pc_isFrom x0 src false = true := q0
          have q2 : ¬ x1.1.2.2.1 = g := q2
          unfold pf_abort
          simp only
          rw [if_neg (fun z => q0 z.1), if_neg (fun z => q2 z.2)]
        rw [e]
        exact ⟨hB, Fr.rf, h⟩
    · rw [if_neg q1, if_pos (by decide)]
      have e : pf_abort G src g = G := by
        obtain ⟨ad, bz, nt, o, la, ou, x0, x1, de, st, nm, hd⟩ := G
        have q0 : ¬ pc_isFrom x0 src false = true := q0
        have q1 : ¬ pc_isFrom x1 src false = true := q1
        unfold pf_abort
        simp only
        rw [if_neg (fun z => q0 z.1), if_neg (fun z => q1 z.1)]
      rw [e]
      exact ⟨hB, Fr.rf, h⟩
