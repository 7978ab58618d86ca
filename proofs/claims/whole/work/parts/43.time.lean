/-! Time. -/
def nv : Nat := 9223372036854775807
def cN (x : Int64) : Nat := x.toBitVec.toNat
def rN (y : Int32) : Nat := if y < 0 then nv else y.toNatClampNeg
theorem nv_big {n : Nat} (h : n < 2 ^ 31) : n < nv := by
  unfold nv
  omega
theorem cN_l {n : Nat} (h : n ≤ nv) : cN (lN n) = n := lN_nat (by unfold nv at h; omega)
theorem cN_v : cN pc_NEVER = nv := cN_l (Nat.le_refl _)
theorem lt_l {a b : Nat} (ha : a ≤ nv) (hb : b ≤ nv) : lN a < lN b ↔ a < b := by
  unfold nv at ha hb
  rw [Int64.lt_iff_toInt_lt, lN_ti (by omega), lN_ti (by omega), if_pos (by omega), if_pos (by omega)]
  omega
theorem eq_l {a b : Nat} (ha : a ≤ nv) (hb : b ≤ nv) : lN a = lN b ↔ a = b := by
  constructor
  · intro h
    have := congrArg cN h
    rw [cN_l ha, cN_l hb] at this
    exact this
  · intro h
    rw [h]
theorem jmin_l {a b : Nat} (ha : a ≤ nv) (hb : b ≤ nv) : jmin (lN a) (lN b) = lN (min a b) := by
  unfold jmin
  by_cases h : b < a
  · rw [if_pos ((lt_l hb ha).mpr h), Nat.min_eq_right (by omega)]
  · rw [if_neg (fun z => h ((lt_l hb ha).mp z)), Nat.min_eq_left (by omega)]
theorem rN_c (y : Int32) : (y < 0 ∧ rN y = nv) ∨ (¬ y < 0 ∧ rN y < 2 ^ 31 ∧ y = nI (rN y)) := by
  by_cases h : y < 0
  · exact Or.inl ⟨h, if_pos h⟩
  · right
    have e : rN y = y.toNatClampNeg := if_neg h
    obtain ⟨j, hj, rfl⟩ := nI_of h
    rw [e, nI_clamp hj]
    exact ⟨h, hj, rfl⟩
theorem rN_n {u : Nat} (h : u < 2 ^ 31) : rN (nI u) = u := by
  unfold rN
  rw [if_neg (nI_neg h), nI_clamp h]
theorem rN_m : rN (-1) = nv := if_pos (by decide)
/-- the reference's choice -/
theorem pick_c {I : Nat → Nat → Int32} {E : Nat} (hE : E < 2 ^ 31) : ∀ m, (pm_pick I (nI E) m = none ∧ ∀ q, q < m → E < rN (pm_due I q)) ∨ ∃ j, pm_pick I (nI E) m = some j ∧ j < m ∧ rN (pm_due I j) ≤ E ∧ (∀ q, q < m → rN (pm_due I j) ≤ rN (pm_due I q)) ∧ ∀ q, q < j → rN (pm_due I j) < rN (pm_due I q)
  | 0 => Or.inl ⟨rfl, fun q hq => absurd hq (Nat.not_lt_zero q)⟩
  | m + 1 => by
    have hv := nv_big hE
    rcases pick_c (I := I) hE m with ⟨h1, h2⟩ | ⟨j, h1, h2, h3, h4, h5⟩
    · have e : pm_pick I (nI E) (m + 1) = if pm_due I m < 0 then none else if nI E < pm_due I m then none else some m := by
        unfold pm_pick
        rw [h1]
      rcases rN_c (pm_due I m) with ⟨y1, y2⟩ | ⟨y1, y2, y3⟩
      · refine Or.inl ⟨by rw [e, if_pos y1], fun q hq => ?_⟩
        by_cases hm : q = m
        · rw [hm, y2]
          exact hv
        · exact h2 q (by omega)
      · by_cases g : E < rN (pm_due I m)
        · refine Or.inl ⟨by rw [e, if_neg y1, if_pos (by rw [y3]; exact nI_lt g y2)], fun q hq => ?_⟩
          by_cases hm : q = m
          · rw [hm]
            exact g
          · exact h2 q (by omega)
        · refine Or.inr ⟨m, by rw [e, if_neg y1, if_neg (by rw [y3]; exact nI_nlt (by omega) hE)], by omega, by omega, fun q hq => ?_, fun q hq => ?_⟩
          · by_cases hm : q = m
            · rw [hm]
              exact Nat.le_refl _
            · have := h2 q (by omega)
              omega
          · have := h2 q hq
            omega
    · have e : pm_pick I (nI E) (m + 1) = if pm_due I m < 0 then some j else if nI E < pm_due I m then some j else if pm_due I j ≤ pm_due I m then some j else some m := by
        unfold pm_pick
        rw [h1]
      have hkeep : rN (pm_due I j) ≤ rN (pm_due I m) → pm_pick I (nI E) (m + 1) = some j → ∃ j, pm_pick I (nI E) (m + 1) = some j ∧ j < m + 1 ∧ rN (pm_due I j) ≤ E ∧ (∀ q, q < m + 1 → rN (pm_due I j) ≤ rN (pm_due I q)) ∧ ∀ q, q < j → rN (pm_due I j) < rN (pm_due I q) := by
        intro hle he
        refine ⟨j, he, by omega, h3, fun q hq => ?_, h5⟩
        by_cases hm : q = m
        · rw [hm]
          exact hle
        · exact h4 q (by omega)
      rcases rN_c (pm_due I m) with ⟨y1, y2⟩ | ⟨y1, y2, y3⟩
      · exact Or.inr (hkeep (by rw [y2]; omega) (by rw [e, if_pos y1]))
      · by_cases g : E < rN (pm_due I m)
        · exact Or.inr (hkeep (by omega) (by rw [e, if_neg y1, if_pos (by rw [y3]; exact nI_lt g y2)]))
        · rcases rN_c (pm_due I j) with ⟨z1, z2⟩ | ⟨z1, z2, z3⟩
          · rw [z2] at h3
            omega
          · have g2 : ¬ nI E < pm_due I m := by rw [y3]; exact nI_nlt (by omega) hE
            by_cases g3 : rN (pm_due I j) ≤ rN (pm_due I m)
            · exact Or.inr (hkeep g3 (by rw [e, if_neg y1, if_neg g2, if_pos (by rw [y3, z3]; exact nI_le g3 y2)]))
            · refine Or.inr ⟨m, by rw [e, if_neg y1, if_neg g2, if_neg (by rw [y3, z3]; exact nI_ge (by omega) z2)], by omega, by omega, fun q hq => ?_, fun q hq => ?_⟩
              · by_cases hm : q = m
                · rw [hm]
                  exact Nat.le_refl _
                · have := h4 q (by omega)
                  omega
              · have := h4 q hq
                omega
theorem pick_u {I : Nat → Nat → Int32} {E q : Nat} (hE : E < 2 ^ 31) (hq : q < 20) (h1 : rN (pm_due I q) ≤ E) (h2 : ∀ p, p < 20 → rN (pm_due I q) ≤ rN (pm_due I p)) (h3 : ∀ p, p < q → rN (pm_due I q) < rN (pm_due I p)) : pm_pick I (nI E) 20 = some q := by
  rcases pick_c (I := I) hE 20 with ⟨-, g2⟩ | ⟨j, g1, g2, g3, g4, g5⟩
  · have := g2 q hq
    omega
  · rw [g1]
    congr 1
    have l1 := g4 q hq
    have l2 := h2 j g2
    by_cases a : j < q
    · have := h3 j a
      omega
    · by_cases b : q < j
      · have := g5 q b
        omega
      · omega
/-- the dues of one function -/
def TD (t : Nat) (x : Int64) (y : Int32) : Prop := (x = pc_NEVER ∧ y = -1) ∨ tm t x y
theorem TD.num {t : Nat} {x : Int64} {y : Int32} (ht : t < 2 ^ 30) (h : TD t x y) : rN y = cN x ∧ x = lN (cN x) ∧ cN x ≤ nv ∧ t ≤ cN x := by
  rcases h with ⟨rfl, rfl⟩ | ⟨u, h1, h2, rfl, rfl⟩
  · rw [cN_v]
    refine ⟨rN_m, rfl, Nat.le_refl _, ?_⟩
    unfold nv
    omega
  · have hu : u < 2 ^ 31 := by omega
    have hv := nv_big hu
    rw [cN_l (by omega), rN_n hu]
    exact ⟨rfl, rfl, by omega, h1⟩
theorem due_0 {I : Nat → Nat → Int32} {f : Nat} : pm_due I (4 * f) = if I 0 f = nI 1 then I 4 f else -1 := by
  unfold pm_due
  rw [show 4 * f % 4 = 0 by omega, show 4 * f / 4 = f by omega, if_pos rfl]
theorem due_1 {I : Nat → Nat → Int32} {f : Nat} : pm_due I (4 * f + 1) = if I 9 f ≤ 0 then -1 else I 16 f := by
  unfold pm_due
  rw [show (4 * f + 1) % 4 = 1 by omega, show (4 * f + 1) / 4 = f by omega, if_neg (by decide), if_pos rfl]
theorem due_2 {I : Nat → Nat → Int32} {f : Nat} : pm_due I (4 * f + 2) = if I 17 f ≤ nI 0 then -1 else I 26 (2 * f + 0) := by
  unfold pm_due
  rw [show (4 * f + 2) % 4 = 2 by omega, show (4 * f + 2) / 4 = f by omega, if_neg (by decide), if_neg (by decide), show 2 * f + 2 - 2 = 2 * f + 0 by omega]
theorem due_3 {I : Nat → Nat → Int32} {f : Nat} : pm_due I (4 * f + 3) = if I 17 f ≤ nI 1 then -1 else I 26 (2 * f + 1) := by
  unfold pm_due
  rw [show (4 * f + 3) % 4 = 3 by omega, show (4 * f + 3) / 4 = f by omega, if_neg (by decide), if_neg (by decide), show 2 * f + 3 - 2 = 2 * f + 1 by omega]
theorem RV.dues {t f : Nat} {G : zG} {D : zMd} (h : RV t G (vw D f)) : TD t G.2.2.2.2.2.2.2.2.2.2.2 (pm_due D.2.2.2.1 (4 * f)) ∧ TD t G.2.2.2.2.2.1.2.2.2.2.2.2.2 (pm_due D.2.2.2.1 (4 * f + 1)) ∧ (((gses 0 G).2.1 = true ∧ TD t (gses 0 G).2.2.2.2.2.2 (pm_due D.2.2.2.1 (4 * f + 2)) ∧ TD t (gses 1 G).2.2.2.2.2.2 (pm_due D.2.2.2.1 (4 * f + 3))) ∨ ((gses 0 G).2.1 = false ∧ (gses 0 G).2.2.2.2.2.2 = pc_NEVER ∧ TD t (gses 1 G).2.2.2.2.2.2 (pm_due D.2.2.2.1 (4 * f + 2)) ∧ pm_due D.2.2.2.1 (4 * f + 3) = -1)) := by
  have hst := RV.st h
  have hra := RV.ra h
  have hro := RV.ro h
  have hn := RV.n h
  have hat := fun r ho => RV.at2 (r := r) h ho
  have hcl : ((gses 0 G).2.1 = false → (gses 0 G).2.2.2.2.2.2 = pc_NEVER) ∧ ((gses 1 G).2.1 = false → (gses 1 G).2.2.2.2.2.2 = pc_NEVER) := by
    obtain ⟨ad, bz, nt, o, la, ou, x0, x1, de, st, nm, hd⟩ := G
    exact ⟨h.2.2.2.2.2.2.2.1.2.2.2.2.1, h.2.2.2.2.2.2.2.1.2.2.2.2.2.1⟩
  rw [due_0, due_1, due_2, due_3, hst, hn]
  refine ⟨?_, ?_, ?_⟩
  · rcases hra with ⟨q, q2⟩ | ⟨q, -, q2⟩ | ⟨q, -, q2⟩ | ⟨q, -, q2⟩
    · rw [q, if_neg (by decide)]
      exact Or.inl ⟨q2, rfl⟩
    · rw [q, if_pos rfl]
      exact Or.inr q2
    · rw [q, if_neg (by decide)]
      exact Or.inl ⟨q2, rfl⟩
    · rw [q, if_neg (by decide)]
      exact Or.inl ⟨q2, rfl⟩
  · generalize G.2.2.2.2.2.1 = ou at *
    obtain ⟨ph, re, tg, gp, si, se, nx, du⟩ := ou
    obtain ⟨h1, h2, h3, h4, h5, h6, h7, h8⟩ := hro
    rw [h1]
    rcases h8 with ⟨q, q2⟩ | ⟨-, -, q2, -, -, ⟨q, -⟩ | ⟨q | q, -⟩⟩
    · rw [q, if_pos (by decide)]
      exact Or.inl ⟨q2, rfl⟩
    · rw [q, if_neg (by decide)]
      exact Or.inr q2
    · rw [q, if_neg (by decide)]
      exact Or.inr q2
    · rw [q, if_neg (by decide)]
      exact Or.inr q2
  · have hs0 : gpl 0 G = 0 := rfl
    by_cases g0 : (gses 0 G).2.1 = true
    · have s0 := (hat 0 g0).2.2
      rw [hs0] at s0
      have hs1 : gpl 1 G = 1 := by
        unfold gpl
        rw [if_neg (by decide)]
        exact if_pos g0
      left
      refine ⟨g0, ?_⟩
      by_cases g1 : (gses 1 G).2.1 = true
      · have s1 := (hat 1 g1).2.2
        rw [hs1] at s1
        rw [oc_1 g0, oc_1 g1, if_neg (by decide), if_neg (by decide)]
        exact ⟨Or.inr s0, Or.inr s1⟩
      · rw [oc_1 g0, oc_0 (ts_nt g1), if_neg (by decide), if_pos (by decide)]
        exact ⟨Or.inr s0, Or.inl ⟨hcl.2 (ts_nt g1), rfl⟩⟩
    · have hs1 : gpl 1 G = 0 := by
        unfold gpl
        rw [if_neg (by decide)]
        exact if_neg g0
      right
      refine ⟨ts_nt g0, hcl.1 (ts_nt g0), ?_⟩
      by_cases g1 : (gses 1 G).2.1 = true
      · have s1 := (hat 1 g1).2.2
        rw [hs1] at s1
        rw [oc_0 (ts_nt g0), oc_1 g1, if_neg (by decide), if_pos (by decide)]
        exact ⟨Or.inr s1, rfl⟩
      · rw [oc_0 (ts_nt g0), oc_0 (ts_nt g1), if_pos (by decide), if_pos (by decide)]
        exact ⟨Or.inl ⟨hcl.2 (ts_nt g1), rfl⟩, rfl⟩
def mn (G : zG) : Nat := min (min (min (cN G.2.2.2.2.2.2.2.2.2.2.2) (cN G.2.2.2.2.2.1.2.2.2.2.2.2.2)) (cN (gses 0 G).2.2.2.2.2.2)) (cN (gses 1 G).2.2.2.2.2.2)
theorem next_eq {G : zG} : pf_nextDue G = jmin (jmin (jmin G.2.2.2.2.2.2.2.2.2.2.2 G.2.2.2.2.2.1.2.2.2.2.2.2.2) (gses 0 G).2.2.2.2.2.2) (gses 1 G).2.2.2.2.2.2 := by
  obtain ⟨ad, bz, nt, o, la, ou, x0, x1, de, st, nm, hd⟩ := G
  rfl
/-- the numbers of one function's dues -/
theorem RV.nums {t f : Nat} {G : zG} {D : zMd} (ht : t < 2 ^ 30) (h : RV t G (vw D f)) : (G.2.2.2.2.2.2.2.2.2.2.2 = lN (cN G.2.2.2.2.2.2.2.2.2.2.2) ∧ G.2.2.2.2.2.1.2.2.2.2.2.2.2 = lN (cN G.2.2.2.2.2.1.2.2.2.2.2.2.2) ∧ (gses 0 G).2.2.2.2.2.2 = lN (cN (gses 0 G).2.2.2.2.2.2) ∧ (gses 1 G).2.2.2.2.2.2 = lN (cN (gses 1 G).2.2.2.2.2.2)) ∧ (cN G.2.2.2.2.2.2.2.2.2.2.2 ≤ nv ∧ cN G.2.2.2.2.2.1.2.2.2.2.2.2.2 ≤ nv ∧ cN (gses 0 G).2.2.2.2.2.2 ≤ nv ∧ cN (gses 1 G).2.2.2.2.2.2 ≤ nv) ∧ (t ≤ cN G.2.2.2.2.2.2.2.2.2.2.2 ∧ t ≤ cN G.2.2.2.2.2.1.2.2.2.2.2.2.2 ∧ t ≤ cN (gses 0 G).2.2.2.2.2.2 ∧ t ≤ cN (gses 1 G).2.2.2.2.2.2) ∧ rN (pm_due D.2.2.2.1 (4 * f)) = cN G.2.2.2.2.2.2.2.2.2.2.2 ∧ rN (pm_due D.2.2.2.1 (4 * f + 1)) = cN G.2.2.2.2.2.1.2.2.2.2.2.2.2 ∧ (((gses 0 G).2.1 = true ∧ rN (pm_due D.2.2.2.1 (4 * f + 2)) = cN (gses 0 G).2.2.2.2.2.2 ∧ rN (pm_due D.2.2.2.1 (4 * f + 3)) = cN (gses 1 G).2.2.2.2.2.2) ∨ ((gses 0 G).2.1 = false ∧ cN (gses 0 G).2.2.2.2.2.2 = nv ∧ rN (pm_due D.2.2.2.1 (4 * f + 2)) = cN (gses 1 G).2.2.2.2.2.2 ∧ rN (pm_due D.2.2.2.1 (4 * f + 3)) = nv)) := by
  obtain ⟨d0, d1, d2⟩ := RV.dues h
  obtain ⟨a1, a2, a3, a4⟩ := d0.num ht
  obtain ⟨b1, b2, b3, b4⟩ := d1.num ht
  rcases d2 with ⟨g, d2, d3⟩ | ⟨g, e, d3, d4⟩
  · obtain ⟨c1, c2, c3, c4⟩ := d2.num ht
    obtain ⟨e1, e2, e3, e4⟩ := d3.num ht
    exact ⟨⟨a2, b2, c2, e2⟩, ⟨a3, b3, c3, e3⟩, ⟨a4, b4, c4, e4⟩, a1, b1, Or.inl ⟨g, c1, e1⟩⟩
  · obtain ⟨e1, e2, e3, e4⟩ := d3.num ht
    have hc : cN (gses 0 G).2.2.2.2.2.2 = nv := by rw [e]; exact cN_v
    have hv := nv_big (n := t) (by omega)
    refine ⟨⟨a2, b2, ?_, e2⟩, ⟨a3, b3, by omega, e3⟩, ⟨a4, b4, by omega, e4⟩, a1, b1, Or.inr ⟨g, hc, e1, by rw [d4]; exact rN_m⟩⟩
    rw [hc, e]
    rfl
theorem RV.next {t f : Nat} {G : zG} {D : zMd} (ht : t < 2 ^ 30) (h : RV t G (vw D f)) : pf_nextDue G = lN (mn G) ∧ mn G ≤ nv ∧ t ≤ mn G ∧ ∀ q, q / 4 = f → mn G ≤ rN (pm_due D.2.2.2.1 q) := by
  obtain ⟨⟨a1, a2, a3, a4⟩, ⟨b1, b2, b3, b4⟩, ⟨c1, c2, c3, c4⟩, d0, d1, d2⟩ := RV.nums ht h
  have hm : mn G = min (min (min (cN G.2.2.2.2.2.2.2.2.2.2.2) (cN G.2.2.2.2.2.1.2.2.2.2.2.2.2)) (cN (gses 0 G).2.2.2.2.2.2)) (cN (gses 1 G).2.2.2.2.2.2) := rfl
  refine ⟨?_, by omega, by omega, fun q hq => ?_⟩
  · rw [next_eq, a1, a2, a3, a4, jmin_l b1 b2, jmin_l (by omega) b3, jmin_l (by omega) b4]
    rfl
  · rcases (show q = 4 * f ∨ q = 4 * f + 1 ∨ q = 4 * f + 2 ∨ q = 4 * f + 3 by omega) with rfl | rfl | rfl | rfl
    · omega
    · omega
    · omega
    · omega
theorem first_c {H : Nat → zG} {m : Nat → Nat} : ∀ k, (∀ g, g ≤ k → pf_nextDue (H g) = lN (m g) ∧ m g ≤ nv) → pa_first H k ≤ k ∧ (∀ g, g ≤ k → m (pa_first H k) ≤ m g) ∧ ∀ g, g < pa_first H k → m (pa_first H k) < m g
  | 0, _ => ⟨Nat.le_refl _, fun g hg => by rw [show g = 0 by omega]; exact Nat.le_refl _, fun g hg => absurd hg (Nat.not_lt_zero g)⟩
  | k + 1, h => by
    obtain ⟨h1, h2, h3⟩ := first_c (m := m) k (fun g hg => h g (by omega))
    have e : pa_first H (k + 1) = if pf_nextDue (H (k + 1)) < pf_nextDue (H (pa_first H k)) then k + 1 else pa_first H k := rfl
    rw [(h (k + 1) (Nat.le_refl _)).1, (h (pa_first H k) (by omega)).1] at e
    have hi := lt_l (h (k + 1) (Nat.le_refl _)).2 (h (pa_first H k) (by omega)).2
    by_cases g : m (k + 1) < m (pa_first H k)
    · rw [if_pos (hi.mpr g)] at e
      rw [e]
      refine ⟨Nat.le_refl _, fun j hj => ?_, fun j hj => ?_⟩
      · by_cases hk : j = k + 1
        · rw [hk]
          exact Nat.le_refl _
        · have := h2 j (by omega)
          omega
      · have := h2 j (by omega)
        omega
    · rw [if_neg (fun z => g (hi.mp z))] at e
      rw [e]
      refine ⟨by omega, fun j hj => ?_, h3⟩
      by_cases hk : j = k + 1
      · rw [hk]
        omega
      · exact h2 j (by omega)
/-- time passes -/
theorem tm.time {t u : Nat} {x : Int64} {y : Int32} (h : tm t x y) (ht : t < 2 ^ 30) (h1 : t ≤ u) (h2 : u ≤ cN x) : tm u x y := by
  obtain ⟨v, v1, v2, rfl, rfl⟩ := h
  have hv := nv_big (n := v) (by omega)
  rw [cN_l (by omega)] at h2
  exact ⟨v, h2, by omega, rfl, rfl⟩
theorem SS.time {t u : Nat} {x : zIn} {s : zSl} (h : SS t x s) (ht : t < 2 ^ 30) (h1 : t ≤ u) (h2 : u ≤ cN x.2.2.2.2.2.2) : SS u x s := ⟨h.1, h.2.1, h.2.2.time ht h1 h2⟩
theorem RV.time {t u : Nat} {G : zG} {V : zV} (h : RV t G V) (ht : t < 2 ^ 30) (h1 : t ≤ u) (h2 : u ≤ mn G) : RV u G V := by
  have hm : mn G = min (min (min (cN G.2.2.2.2.2.2.2.2.2.2.2) (cN G.2.2.2.2.2.1.2.2.2.2.2.2.2)) (cN (gses 0 G).2.2.2.2.2.2)) (cN (gses 1 G).2.2.2.2.2.2) := rfl
  generalize mn G = m at *
  obtain ⟨ad, bz, nt, o, la, ⟨ph, re, tg, gp, si, se, nx, du⟩, x0, x1, de, st, nm, hd⟩ := G
  obtain ⟨⟨v0, v1, w2, v3, v4⟩, N, ⟨o0, o1, o2, o3, o4, o5, o6, o7⟩, n, s0, s1, L⟩ := V
  obtain ⟨a1, a2, a3, a4, a5, a6, ⟨r1, r2, r3, r4, r5, r6, r7, r8⟩, ⟨b1, b2, b3, b4, b5, b6, b7, b8, b9⟩, a9⟩ := h
  have hm : m = min (min (min (cN hd) (cN du)) (cN x0.2.2.2.2.2.2)) (cN x1.2.2.2.2.2.2) := hm
  refine ⟨a1, a2, a3, a4, a5, ?_, ⟨r1, r2, r3, r4, r5, r6, r7, ?_⟩, ⟨b1, fun z => (b2 z).time ht h1 (by omega), fun z => (b3 z).time ht h1 (by omega), b4, b5, b6, b7, b8, b9⟩, a9⟩
  · rcases a6 with q | ⟨q1, q2, q3⟩ | q | q
    · exact Or.inl q
    · exact Or.inr (Or.inl ⟨q1, q2, q3.time ht h1 (by omega)⟩)
    · exact Or.inr (Or.inr (Or.inl q))
    · exact Or.inr (Or.inr (Or.inr q))
  · rcases r8 with q | ⟨q1, q2, q3, q4⟩
    · exact Or.inl q
    · exact Or.inr ⟨q1, q2, q3.time ht h1 (by omega), q4⟩
theorem RB.time {t u : Nat} {B : zB} {D : zMd} (h : RB t B D) : RB u (pa_setNow B (lN u)) (pm_setNow D (nI u)) := by
  obtain ⟨h1, h2, h3, h4, h5, h6⟩ := h
  exact ⟨rfl, rfl, h3, h4, h5, h6⟩
theorem R5.time {t u : Nat} {B : zB} {H : Nat → zG} {D : zMd} (h : R5 t B H D) (ht : t < 2 ^ 30) (h1 : t ≤ u) (h2 : ∀ f, f < 5 → u ≤ mn (H f)) : R5 u (pa_setNow B (lN u)) H (pm_setNow D (nI u)) := ⟨h.1.time, fun f hf => (h.2 f hf).time ht h1 (h2 f hf)⟩
/-- how often timers can still go off -/
def fi (E n : Nat) : Nat := if n ≤ E then (E - n) / 50 + 1 else 0
def ps (E : Nat) (G : zG) : Nat := fi E (cN G.2.2.2.2.2.2.2.2.2.2.2) + fi E (cN G.2.2.2.2.2.1.2.2.2.2.2.2.2) + fi E (cN (gses 0 G).2.2.2.2.2.2) + fi E (cN (gses 1 G).2.2.2.2.2.2)
def pS (E : Nat) (H : Nat → zG) : Nat := ps E (H 0) + ps E (H 1) + ps E (H 2) + ps E (H 3) + ps E (H 4)
theorem pS_foc {E f : Nat} {H : Nat → zG} {G : zG} (hf : f < 5) (h : ps E G + 1 ≤ ps E (H f)) : pS E (foc H f G) + 1 ≤ pS E H := by
  unfold pS
  rcases (show f = 0 ∨ f = 1 ∨ f = 2 ∨ f = 3 ∨ f = 4 by omega) with rfl | rfl | rfl | rfl | rfl
  all_goals
    simp only [foc]
    simp
    omega
theorem fi_le {E n t : Nat} (h1 : t ≤ n) (h2 : E ≤ t + 2000) : fi E n ≤ 41 := by
  unfold fi
  split <;> omega
theorem fi_fall {E u : Nat} {x : Int64} (hE : E < 2 ^ 30) (hu : u ≤ E) (hx : x = pc_NEVER ∨ ∃ w, 50 ≤ w ∧ w ≤ 1250 ∧ x = lN (u + w)) : fi E (cN x) + 1 ≤ fi E u := by
  have hv := nv_big (n := E) (by omega)
  have e : fi E u = (E - u) / 50 + 1 := if_pos hu
  rw [e]
  rcases hx with rfl | ⟨w, h1, h2, rfl⟩
  · rw [cN_v]
    unfold fi
    rw [if_neg (by omega)]
    omega
  · have hv2 := nv_big (n := u + w) (by omega)
    rw [cN_l (by omega)]
    unfold fi
    split <;> omega
theorem due_gr {B : zB} {n a : Int32} {bz : Bool} {x : zIn} {u : Nat} (h : B.2.2.2.2.2 = lN u) : ∃ w, 50 ≤ w ∧ w ≤ 1250 ∧ (pc_grant B n a bz x).2.2.2.2.2.2.2 = lN (u + w) := by
  obtain ⟨⟨pk, so, gr, si, ta⟩, op, he, ex, lt, ak, du⟩ := x
  unfold pc_grant
  simp only
  by_cases hb : bz = true
  · rw [if_pos hb]
    exact ⟨500, by decide, by decide, now_add h⟩
  · rw [if_neg hb]
    exact ⟨1250, by decide, by decide, now_add h⟩
theorem due_en {x : zIn} : (pc_iend x).2.2.2.2.2.2 = pc_NEVER := by
  obtain ⟨ms, op, he, ex, lt, ak, du⟩ := x
  rfl
theorem due_ig {B : zB} {n a : Int32} {bz : Bool} {x : zIn} {u : Nat} (h : B.2.2.2.2.2 = lN u) : (pc_igoOff B n a bz x).2.2.2.2.2.2.2 = pc_NEVER ∨ ∃ w, 50 ≤ w ∧ w ≤ 1250 ∧ (pc_igoOff B n a bz x).2.2.2.2.2.2.2 = lN (u + w) := by
  unfold pc_igoOff
  split
  · exact Or.inl due_en
  · split
    · exact Or.inr (due_gr h)
    · obtain ⟨⟨pk, so, gr, si, ta⟩, op, he, ex, lt, ak, du⟩ := x
      unfold pc_askAgain
      simp only
      split
      · exact Or.inl due_en
      · exact Or.inr (due_gr h)
theorem due_oe {x : zOu} {how : Int32} : (pc_oend x how).2.2.2.2.2.2.2 = pc_NEVER := by
  obtain ⟨ph, re, tg, gp, si, se, nx, du⟩ := x
  rfl
theorem due_og {B : zB} {n a : Int32} {x : zOu} {u : Nat} (h : B.2.2.2.2.2 = lN u) : (pc_ogoOff B n a x).2.2.2.2.2.2.2.2 = pc_NEVER ∨ ∃ w, 50 ≤ w ∧ w ≤ 1250 ∧ (pc_ogoOff B n a x).2.2.2.2.2.2.2.2 = lN (u + w) := by
  unfold pc_ogoOff
  split
  · obtain ⟨ph, re, tg, gp, si, se, nx, du⟩ := x
    unfold pc_sendNext
    simp only
    split
    · exact Or.inr ⟨50, by decide, by decide, now_add h⟩
    · exact Or.inl due_oe
  · exact Or.inl due_oe
/-- one timer goes off -/
def pm_won (D : zMd) (f : Nat) : zMd := match D with
  | (t, fr, lo, I, J) => (t, fr, lo, up2 I 0 f (nI 2), J)
theorem go_0 {D : zMd} {f : Nat} : pm_goOff D (4 * f) = pm_won D f := by
  obtain ⟨t, fr, lo, I, J⟩ := D
  unfold pm_goOff pm_won
  simp only
  rw [if_pos (by omega), show 4 * f / 4 = f by omega]
theorem go_1 {D : zMd} {f : Nat} : pm_goOff D (4 * f + 1) = pm_outOff D f := by
  obtain ⟨t, fr, lo, I, J⟩ := D
  unfold pm_goOff
  simp only
  rw [if_neg (by omega), if_pos (by omega), show (4 * f + 1) / 4 = f by omega]
theorem go_s {D : zMd} {f c : Nat} (hc : c < 2) : pm_goOff D (4 * f + 2 + c) = if D.2.2.2.1 18 (2 * f + c) = 0 then (if D.2.2.2.1 25 (2 * f + c) = 0 then pm_ask D f (2 * f + c) (nI 3) else pm_grant D f (2 * f + c)) else pm_close D f (2 * f + c) := by
  obtain ⟨t, fr, lo, I, J⟩ := D
  unfold pm_goOff
  simp only
  rw [if_neg (by omega), if_neg (by omega), show (4 * f + 2 + c) / 4 = f by omega, show (4 * f + 2 + c) % 4 = 2 + c by omega, show 2 * f + (2 + c) - 2 = 2 * f + c by omega]
theorem vw_won {D : zMd} {f : Nat} : vw (pm_won D f) f = ((nI 2, D.2.2.2.1 1 f, D.2.2.2.2 2 f, D.2.2.2.1 3 f, D.2.2.2.1 4 f), (vw D f).2) := by
  obtain ⟨t, fr, lo, I, J⟩ := D
  simp [vw, vwI, slv, up2_r, pm_won]
theorem sim_won {t f : Nat} {B : zB} {G : zG} {D : zMd} (hB : RB t B D) (h : RV t G (vw D f)) (hd : ¬ G.2.2.2.2.2.2.2.2.2.2.2 = pc_NEVER) : SIM t f D (B, (G.1, G.2.1, G.2.2.1, G.2.2.2.1, G.2.2.2.2.1, G.2.2.2.2.2.1, G.2.2.2.2.2.2.1, G.2.2.2.2.2.2.2.1, G.2.2.2.2.2.2.2.2.1, nI 2, G.2.2.2.2.2.2.2.2.2.2.1, pc_NEVER)) (pm_won D f) := by
  refine ⟨hB.mod ?_, ?_, ?_⟩
  · obtain ⟨t, fr, lo, I, J⟩ := D
    exact bw_up (by decide) (by decide)
  · obtain ⟨t, fr, lo, I, J⟩ := D
    exact ⟨rfl, FrI.up rfl FrI.rf, FrJ.rf⟩
  · rw [vw_won]
    obtain ⟨ad, bz, nt, o, la, ⟨ph, re, tg, gp, si, se, nx, du⟩, x0, x1, de, st, nm, hd'⟩ := G
    have hd : ¬ hd' = pc_NEVER := hd
    obtain ⟨a1, a2, a3, a4, a5, a6, ⟨r1, r2, r3, r4, r5, r6, r7, r8⟩, ⟨b1, b2, b3, b4, b5, b6, b7, b8, b9⟩, a9⟩ := h
    have hst : st = nI 1 ∧ ∃ a, a ≤ 253 ∧ ad = nI a ∧ D.2.2.2.1 1 f = nI a := by
      rcases a6 with ⟨-, q⟩ | ⟨q1, q2, -⟩ | ⟨-, -, q⟩ | ⟨-, -, q⟩
      · exact absurd q hd
      · exact ⟨q1, q2⟩
      · exact absurd q hd
      · exact absurd q hd
    obtain ⟨hst, hA⟩ := hst
    subst hst
    refine ⟨a1, a2, rfl, a4, a5, Or.inr (Or.inr (Or.inl ⟨rfl, hA, rfl⟩)), ⟨r1, fun _ => r2 (by decide), r3, r4, r5, r6, r7, ?_⟩, ⟨b1, b2, b3, b4, b5, b6, b7, b8, fun _ => rfl⟩, a9⟩
    rcases r8 with q | ⟨q, -⟩
    · exact Or.inl q
    · exact absurd q (by decide)
theorem goOff_eq {B : zB} {num : Int32} {G : zG} : pf_goOff B num G = if G.2.2.2.2.2.2.2.2.2.2.2 = B.2.2.2.2.2 then (B, (G.1, G.2.1, G.2.2.1, G.2.2.2.1, G.2.2.2.2.1, G.2.2.2.2.2.1, G.2.2.2.2.2.2.1, G.2.2.2.2.2.2.2.1, G.2.2.2.2.2.2.2.2.1, nI 2, G.2.2.2.2.2.2.2.2.2.2.1, pc_NEVER))
    else if G.2.2.2.2.2.1.2.2.2.2.2.2.2 = B.2.2.2.2.2 then ((pc_ogoOff B num G.1 G.2.2.2.2.2.1).1, pf_setOu G (pc_ogoOff B num G.1 G.2.2.2.2.2.1).2)
    else if (gses 0 G).2.2.2.2.2.2 = B.2.2.2.2.2 then ((pc_igoOff B num G.1 G.2.1 (gses 0 G)).1, gset 0 (pc_igoOff B num G.1 G.2.1 (gses 0 G)).2 G)
    else if (gses 1 G).2.2.2.2.2.2 = B.2.2.2.2.2 then ((pc_igoOff B num G.1 G.2.1 (gses 1 G)).1, gset 1 (pc_igoOff B num G.1 G.2.1 (gses 1 G)).2 G)
    else (B, G) := by
  obtain ⟨ad, bz, nt, o, la, ou, x0, x1, de, st, nm, hd⟩ := G
  rfl
theorem ps_w {E : Nat} {G : zG} {x : Int32} : ps E (G.1, G.2.1, G.2.2.1, G.2.2.2.1, G.2.2.2.2.1, G.2.2.2.2.2.1, G.2.2.2.2.2.2.1, G.2.2.2.2.2.2.2.1, G.2.2.2.2.2.2.2.2.1, x, G.2.2.2.2.2.2.2.2.2.2.1, pc_NEVER) = fi E (cN pc_NEVER) + fi E (cN G.2.2.2.2.2.1.2.2.2.2.2.2.2) + fi E (cN (gses 0 G).2.2.2.2.2.2) + fi E (cN (gses 1 G).2.2.2.2.2.2) := rfl
theorem ps_o {E : Nat} {G : zG} {x : zOu} : ps E (pf_setOu G x) = fi E (cN G.2.2.2.2.2.2.2.2.2.2.2) + fi E (cN x.2.2.2.2.2.2.2) + fi E (cN (gses 0 G).2.2.2.2.2.2) + fi E (cN (gses 1 G).2.2.2.2.2.2) := by
  obtain ⟨ad, bz, nt, o, la, ou, x0, x1, de, st, nm, hd⟩ := G
  rfl
theorem ps_0 {E : Nat} {G : zG} {x : zIn} : ps E (gset 0 x G) = fi E (cN G.2.2.2.2.2.2.2.2.2.2.2) + fi E (cN G.2.2.2.2.2.1.2.2.2.2.2.2.2) + fi E (cN x.2.2.2.2.2.2) + fi E (cN (gses 1 G).2.2.2.2.2.2) := by
  obtain ⟨ad, bz, nt, o, la, ou, x0, x1, de, st, nm, hd⟩ := G
  rfl
theorem ps_1 {E : Nat} {G : zG} {x : zIn} : ps E (gset 1 x G) = fi E (cN G.2.2.2.2.2.2.2.2.2.2.2) + fi E (cN G.2.2.2.2.2.1.2.2.2.2.2.2.2) + fi E (cN (gses 0 G).2.2.2.2.2.2) + fi E (cN x.2.2.2.2.2.2) := by
  obtain ⟨ad, bz, nt, o, la, ou, x0, x1, de, st, nm, hd⟩ := G
  rfl
theorem sim_slot {u f r : Nat} {B : zB} {G : zG} {D : zMd} (hf : f < 5) (hB : RB u B D) (h : RV u G (vw D f)) (ho : (gses r G).2.1 = true) : SIM u f D ((pc_igoOff B (nI f) G.1 G.2.1 (gses r G)).1, gset r (pc_igoOff B (nI f) G.1 G.2.1 (gses r G)).2 G) (pm_goOff D (4 * f + 2 + gpl r G)) := by
  have h2 : G.2.2.2.2.2.2.2.2.2.1 = nI 2 := by
    obtain ⟨ad, bz, nt, o, la, ou, x0, x1, de, st, nm, hd⟩ := G
    refine h.2.2.2.2.2.2.2.1.2.2.2.2.2.2.2.2 ?_
    by_cases hr : r = 0
    · rw [hr] at ho
      exact Or.inl ho
    · rw [show gses r (ad, bz, nt, o, la, ou, x0, x1, de, st, nm, hd) = x1 from if_neg hr] at ho
      exact Or.inr ho
  obtain ⟨a, ha, ea, hsr, -⟩ := RV.src2 h h2
  rw [go_s (gpl_lt r G), ea]
  have hs := sim_ioff hB hf hsr ha (RV.bz h) (gpl_lt r G) (RV.at2 h ho)
  exact ⟨hs.1, hs.2.1, RV.res h ho hs⟩
theorem sim_go {u f E : Nat} {B : zB} {G : zG} {D : zMd} (hE : E < 2 ^ 30) (hu : u ≤ E) (hf : f < 5) (hB : RB u B D) (h : RV u G (vw D f)) (hm : mn G = u) : ∃ q, q / 4 = f ∧ rN (pm_due D.2.2.2.1 q) = u ∧ (∀ p, p / 4 = f → p < q → u < rN (pm_due D.2.2.2.1 p)) ∧ SIM u f D (pf_goOff B (nI f) G) (pm_goOff D q) ∧ ps E (pf_goOff B (nI f) G).2 + 1 ≤ ps E G := by
  obtain ⟨⟨a1, a2, a3, a4⟩, ⟨b1, b2, b3, b4⟩, ⟨c1, c2, c3, c4⟩, d0, d1, d2⟩ := RV.nums (show u < 2 ^ 30 by omega) h
  have hv := nv_big (n := E) (by omega)
  have hn : B.2.2.2.2.2 = lN u := hB.1
  have hm' : min (min (min (cN G.2.2.2.2.2.2.2.2.2.2.2) (cN G.2.2.2.2.2.1.2.2.2.2.2.2.2)) (cN (gses 0 G).2.2.2.2.2.2)) (cN (gses 1 G).2.2.2.2.2.2) = u := hm
  have hne : ∀ x : Int64, cN x = u → ¬ x = pc_NEVER := by
    intro x hx e
    rw [e, cN_v] at hx
    omega
  have hcl : ((gses 0 G).2.1 = false → (gses 0 G).2.2.2.2.2.2 = pc_NEVER) ∧ ((gses 1 G).2.1 = false → (gses 1 G).2.2.2.2.2.2 = pc_NEVER) := by
    obtain ⟨ad, bz, nt, o, la, ou, x0, x1, de, st, nm, hd⟩ := G
    exact ⟨h.2.2.2.2.2.2.2.1.2.2.2.2.1, h.2.2.2.2.2.2.2.1.2.2.2.2.2.1⟩
  have heq : ∀ x : Int64, x = lN (cN x) → cN x ≤ nv → (x = B.2.2.2.2.2 ↔ cN x = u) := by
    intro x e1 e2
    rw [hn]
    constructor
    · intro q
      rw [q]
      exact cN_l (by omega)
    · intro q
      rw [e1, q]
  have hps : ps E G = fi E (cN G.2.2.2.2.2.2.2.2.2.2.2) + fi E (cN G.2.2.2.2.2.1.2.2.2.2.2.2.2) + fi E (cN (gses 0 G).2.2.2.2.2.2) + fi E (cN (gses 1 G).2.2.2.2.2.2) := rfl
  by_cases k0 : cN G.2.2.2.2.2.2.2.2.2.2.2 = u
  · have e : pf_goOff B (nI f) G = _ := goOff_eq.trans (if_pos ((heq _ a1 b1).mpr k0))
    refine ⟨4 * f, by omega, by omega, fun p hp hq => by omega, ?_, ?_⟩
    · rw [e, go_0]
      exact sim_won hB h (hne _ k0)
    · rw [e]
      show ps E (G.1, G.2.1, G.2.2.1, G.2.2.2.1, G.2.2.2.2.1, G.2.2.2.2.2.1, G.2.2.2.2.2.2.1, G.2.2.2.2.2.2.2.1, G.2.2.2.2.2.2.2.2.1, nI 2, G.2.2.2.2.2.2.2.2.2.2.1, pc_NEVER) + 1 ≤ _
      rw [ps_w, hps, k0]
      have := fi_fall hE hu (x := pc_NEVER) (Or.inl rfl)
      omega
  · have k0' : ¬ G.2.2.2.2.2.2.2.2.2.2.2 = B.2.2.2.2.2 := fun z => k0 ((heq _ a1 b1).mp z)
    by_cases k1 : cN G.2.2.2.2.2.1.2.2.2.2.2.2.2 = u
    · have e : pf_goOff B (nI f) G = _ := goOff_eq.trans ((if_neg k0').trans (if_pos ((heq _ a2 b2).mpr k1)))
      refine ⟨4 * f + 1, by omega, by omega, fun p hp hq => ?_, ?_, ?_⟩
      · rw [show p = 4 * f by omega]
        omega
      · rw [e, go_1]
        refine sim_ooff hf hB h ?_
        have hr := RV.ro h
        have hk := hne _ k1
        generalize G.2.2.2.2.2.1 = ou at *
        obtain ⟨ph, re, tg, gp, si, se, nx, du⟩ := ou
        obtain ⟨-, -, -, -, -, -, -, h8⟩ := hr
        intro q
        have q : ph = nI 0 := q
        rcases h8 with ⟨-, z⟩ | ⟨-, -, -, -, -, ⟨z, -⟩ | ⟨z | z, -⟩⟩
        · exact hk z
        · rw [q] at z
          exact absurd z (by decide)
        · rw [q] at z
          exact absurd z (by decide)
        · rw [q] at z
          exact absurd z (by decide)
      · rw [e]
        show ps E (pf_setOu G (pc_ogoOff B (nI f) G.1 G.2.2.2.2.2.1).2) + 1 ≤ _
        rw [ps_o, hps, k1]
        have := fi_fall hE hu (due_og (n := nI f) (a := G.1) (x := G.2.2.2.2.2.1) hn)
        omega
    · have k1' : ¬ G.2.2.2.2.2.1.2.2.2.2.2.2.2 = B.2.2.2.2.2 := fun z => k1 ((heq _ a2 b2).mp z)
      by_cases k2 : cN (gses 0 G).2.2.2.2.2.2 = u
      · have e : pf_goOff B (nI f) G = _ := goOff_eq.trans ((if_neg k0').trans ((if_neg k1').trans (if_pos ((heq _ a3 b3).mpr k2))))
        have ho : (gses 0 G).2.1 = true := by
          by_cases z : (gses 0 G).2.1 = true
          · exact z
          · exact absurd (hcl.1 (ts_nt z)) (hne _ k2)
        rcases d2 with ⟨-, d2, d3⟩ | ⟨z, -⟩
        · refine ⟨4 * f + 2, by omega, by omega, fun p hp hq => ?_, ?_, ?_⟩
          · rcases (show p = 4 * f ∨ p = 4 * f + 1 by omega) with rfl | rfl
            · omega
            · omega
          · rw [e]
            exact sim_slot (r := 0) hf hB h ho
          · rw [e]
            show ps E (gset 0 (pc_igoOff B (nI f) G.1 G.2.1 (gses 0 G)).2 G) + 1 ≤ _
            rw [ps_0, hps, k2]
            have := fi_fall hE hu (due_ig (n := nI f) (a := G.1) (bz := G.2.1) (x := gses 0 G) hn)
            omega
        · rw [z] at ho
          cases ho
      · have k2' : ¬ (gses 0 G).2.2.2.2.2.2 = B.2.2.2.2.2 := fun z => k2 ((heq _ a3 b3).mp z)
        have k3 : cN (gses 1 G).2.2.2.2.2.2 = u := by omega
        have e : pf_goOff B (nI f) G = _ := goOff_eq.trans ((if_neg k0').trans ((if_neg k1').trans ((if_neg k2').trans (if_pos ((heq _ a4 b4).mpr k3)))))
        have ho : (gses 1 G).2.1 = true := by
          by_cases z : (gses 1 G).2.1 = true
          · exact z
          · exact absurd (hcl.2 (ts_nt z)) (hne _ k3)
        have hp1 : gpl 1 G = if (gses 0 G).2.1 = true then 1 else 0 := by
          unfold gpl
          rw [if_neg (by decide)]
          rfl
        have hS := sim_slot (r := 1) hf hB h ho
        have hP : ps E (pf_goOff B (nI f) G).2 + 1 ≤ ps E G := by
          rw [e]
          show ps E (gset 1 (pc_igoOff B (nI f) G.1 G.2.1 (gses 1 G)).2 G) + 1 ≤ _
          rw [ps_1, hps, k3]
          have := fi_fall hE hu (due_ig (n := nI f) (a := G.1) (bz := G.2.1) (x := gses 1 G) hn)
          omega
        rcases d2 with ⟨z, d2, d3⟩ | ⟨z, z2, d2, d3⟩
        · rw [if_pos z] at hp1
          rw [hp1] at hS
          refine ⟨4 * f + 2 + 1, by omega, d3.trans k3, fun p hp hq => ?_, by rw [e]; exact hS, hP⟩
          rcases (show p = 4 * f ∨ p = 4 * f + 1 ∨ p = 4 * f + 2 by omega) with rfl | rfl | rfl
          · omega
          · omega
          · omega
        · rw [if_neg (by rw [z]; decide)] at hp1
          rw [hp1] at hS
          refine ⟨4 * f + 2 + 0, by omega, d2.trans k3, fun p hp hq => ?_, by rw [e]; exact hS, hP⟩
          rcases (show p = 4 * f ∨ p = 4 * f + 1 by omega) with rfl | rfl
          · omega
          · omega
theorem sim_offs {E : Nat} (hE : E < 2 ^ 30) : ∀ (k c t : Nat) (B : zB) (H : Nat → zG) (D : zMd), R5 t B H D → t ≤ E → pS E H < k → ∃ (c' : Nat) (D' : zMd) (t' : Nat), pm_offs 20 (nI E) k c D = some (c', D') ∧ (pa_offs (lN E) k c B H).1 = c' ∧ t' ≤ E ∧ R5 t' (pa_offs (lN E) k c B H).2.1 (pa_offs (lN E) k c B H).2.2 D' ∧ ∀ f, f < 5 → E < mn ((pa_offs (lN E) k c B H).2.2 f)
  | 0, _, _, _, _, _, _, _, hp => absurd hp (Nat.not_lt_zero _)
  | k + 1, c, t, B, H, D, h, ht, hp => by
    have hv := nv_big (n := E) (by omega)
    have ht2 : t < 2 ^ 30 := by omega
    have hnx : ∀ g, g < 5 → _ := fun g hg => RV.next ht2 (h.2 g hg)
    obtain ⟨f1, f2, f3⟩ := first_c (H := H) (m := fun g => mn (H g)) 4 (fun g hg => ⟨(hnx g (by omega)).1, (hnx g (by omega)).2.1⟩)
    have eC : pa_offs (lN E) (k + 1) c B H = if lN E < pf_nextDue (H (pa_first H 4)) then (c, B, H) else pa_offs (lN E) k (c + 1) (pf_goOff (pa_setNow B (pf_nextDue (H (pa_first H 4)))) (nI (pa_first H 4)) (H (pa_first H 4))).1 (foc H (pa_first H 4) (pf_goOff (pa_setNow B (pf_nextDue (H (pa_first H 4)))) (nI (pa_first H 4)) (H (pa_first H 4))).2) := rfl
    generalize pa_first H 4 = f0 at *
    obtain ⟨n1, n2, n3, n4⟩ := hnx f0 (by omega)
    rw [n1] at eC
    have f2 : ∀ g, g ≤ 4 → mn (H f0) ≤ mn (H g) := f2
    have f3 : ∀ g, g < f0 → mn (H f0) < mn (H g) := f3
    have hge : ∀ q, q < 20 → mn (H (q / 4)) ≤ rN (pm_due D.2.2.2.1 q) := fun q hq => (hnx (q / 4) (by omega)).2.2.2 q rfl
    by_cases hg : E < mn (H f0)
    · rw [if_pos ((lt_l (by omega) n2).mpr hg)] at eC
      rw [eC]
      refine ⟨c, D, t, ?_, rfl, ht, h, fun f hf => Nat.lt_of_lt_of_le hg (f2 f (by omega))⟩
      have hpk : pm_pick D.2.2.2.1 (nI E) 20 = none := by
        rcases pick_c (I := D.2.2.2.1) (E := E) (by omega) 20 with ⟨g1, -⟩ | ⟨j, -, g2, g3, -, -⟩
        · exact g1
        · have l1 := hge j g2
          have l2 := f2 (j / 4) (by omega)
          omega
      unfold pm_offs
      rw [hpk]
    · rw [if_neg (fun z => hg ((lt_l (by omega) n2).mp z))] at eC
      have hT := R5.time h ht2 n3 (fun f hf => f2 f (by omega))
      obtain ⟨q, q1, q2, q3, q4, q5⟩ := sim_go hE (show mn (H f0) ≤ E by omega) (show f0 < 5 by omega) hT.1 (hT.2 f0 (by omega)) rfl
      have q2 : rN (pm_due D.2.2.2.1 q) = mn (H f0) := q2
      have q3 : ∀ p, p / 4 = f0 → p < q → mn (H f0) < rN (pm_due D.2.2.2.1 p) := q3
      have hpk : pm_pick D.2.2.2.1 (nI E) 20 = some q := by
        refine pick_u (by omega) (by omega) (by omega) (fun p hp => ?_) (fun p hp => ?_)
        · have l1 := hge p hp
          have l2 := f2 (p / 4) (by omega)
          omega
        · by_cases e : p / 4 = f0
          · have := q3 p e hp
            omega
          · have l1 := hge p (by omega)
            have l2 := f3 (p / 4) (by omega)
            omega
      have hdu : pm_due D.2.2.2.1 q = nI (mn (H f0)) := by
        rcases rN_c (pm_due D.2.2.2.1 q) with ⟨-, y⟩ | ⟨-, -, y⟩
        · omega
        · rw [y, q2]
      have hN := hT.step q4
      have hf := pS_foc (E := E) (H := H) (show f0 < 5 by omega) q5
      obtain ⟨c', D', t', r1, r2, r3, r4, r5⟩ := sim_offs hE k (c + 1) (mn (H f0)) _ _ _ hN (by omega) (by omega)
      rw [eC]
      refine ⟨c', D', t', ?_, r2, r3, r4, r5⟩
      unfold pm_offs
      rw [hpk]
      simp only
      rw [hdu]
      exact r1
