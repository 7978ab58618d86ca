/-! What the walk of the law asks of the relation. -/
theorem isF_eq (x : Int32) : pa_isF x = (!decide (x < 0) && !decide (nI 4 < x)) := by
  have h : (nI 5 ≤ x) ↔ (nI 4 < x) := by
    rw [Int32.le_iff_toInt_le, Int32.lt_iff_toInt_lt, nI_toInt (by decide), nI_toInt (by decide)]
    omega
  unfold pa_isF
  rw [decide_eq_decide.mpr h]
theorem isF_out {x : Int32} (h : ¬ pa_isF x = true) : x < 0 ∨ nI 4 < x := by
  rw [isF_eq] at h
  simp only [Bool.and_eq_true, Bool.not_eq_true', decide_eq_false_iff_not] at h
  by_cases a : x < 0
  · exact Or.inl a
  · by_cases b : nI 4 < x
    · exact Or.inr b
    · exact absurd ⟨a, b⟩ h
theorem isF_in {f : Nat} (h : f < 5) : ¬ nI f < 0 ∧ ¬ nI 4 < nI f := ⟨nI_neg (by omega), nI_nlt (by omega) (by decide)⟩
theorem on_x {t : Nat} {B : zB} {H : Nat → zG} {D : zMd} (h : R5 t B H D) (x : Int32) : pa_isOn H x = pm_on D.2.2.2.1 x := by
  unfold pa_isOn pm_on
  rw [← isF_eq]
  by_cases hx : pa_isF x = true
  · obtain ⟨f, hf, rfl⟩ := pa_isF_n hx
    rw [pa_cl hf, RV.st (h.2 f hf)]
  · rw [ts_nt hx]
    rfl
theorem on_c {H : Nat → zG} {x : Int32} (h : pa_isOn H x = true) : ∃ f : Nat, f < 5 ∧ x = nI f ∧ (H f).2.2.2.2.2.2.2.2.2.1 ≠ nI 0 := by
  obtain ⟨f, hf, rfl⟩ := pa_isOn_n h
  refine ⟨f, hf, rfl, ?_⟩
  unfold pa_isOn at h
  rw [pa_cl hf] at h
  simp only [Bool.and_eq_true, Bool.not_eq_true', decide_eq_false_iff_not] at h
  exact h.2
theorem tk_eq {t : Nat} {B : zB} {H : Nat → zG} {D : zMd} (h : R5 t B H D) (name : Int64) : ∀ k, k ≤ 5 → pa_tk H name k = pm_tk D.2.2.2.1 D.2.2.2.2 name k
  | 0, _ => rfl
  | k + 1, hk => by
    unfold pa_tk pm_tk
    rw [tk_eq h name k (by omega), RV.st (h.2 k (by omega)), RV.nm (h.2 k (by omega))]
theorem start_eq {D : zMd} {x a : Int32} {name : Int64} : pm_start D x name a = if ¬ x < 0 ∧ ¬ nI 4 < x ∧ D.2.2.2.1 0 x.toNatClampNeg = 0 ∧ ¬ a < 0 ∧ a ≤ nI 253 ∧ ¬ pm_tk D.2.2.2.1 D.2.2.2.2 name 5 = true then (true, pm_putCl (pm_st1 D x.toNatClampNeg name a) x.toNatClampNeg) else (false, D) := by
  obtain ⟨t, fr, lo, I, J⟩ := D
  unfold pm_start
  simp only
  by_cases c1 : x < 0
  · rw [if_pos c1, if_neg (fun z => z.1 c1)]
  rw [if_neg c1]
  by_cases c2 : nI 4 < x
  · rw [if_pos c2, if_neg (fun z => z.2.1 c2)]
  rw [if_neg c2]
  by_cases c3 : I 0 x.toNatClampNeg = 0
  · rw [if_pos c3]
    by_cases c4 : a < 0
    · rw [if_pos c4, if_neg (fun z => z.2.2.2.1 c4)]
    rw [if_neg c4]
    by_cases c5 : a ≤ nI 253
    · rw [if_pos c5]
      by_cases c6 : pm_tk I J name 5 = true
      · rw [if_pos c6, if_neg (fun z => z.2.2.2.2.2 c6)]
      · rw [if_neg c6, if_pos ⟨c1, c2, c3, c4, c5, c6⟩]
        rfl
    · rw [if_neg c5, if_neg (fun z => c5 z.2.2.2.2.1)]
  · rw [if_neg c3, if_neg (fun z => c3 z.2.2.1)]
theorem stop_eq {D : zMd} {x : Int32} : pm_stop D x = if pm_on D.2.2.2.1 x = true then (true, pm_rm x.toNatClampNeg (pm_sp1 D x.toNatClampNeg).2.1 (pm_sp1 D x.toNatClampNeg)) else (false, D) := by
  obtain ⟨t, fr, lo, I, J⟩ := D
  rfl
theorem send_eq {D : zMd} {x tg gr si : Int32} {se : Int64} : pm_send D x tg gr si se = if pm_on D.2.2.2.1 x = true ∧ D.2.2.2.1 0 x.toNatClampNeg = nI 2 ∧ ¬ 0 < D.2.2.2.1 9 x.toNatClampNeg ∧ ¬ tg < 0 ∧ ¬ tg = nI 254 ∧ ¬ nI 255 < tg ∧ ¬ tg = D.2.2.2.1 1 x.toNatClampNeg ∧ ¬ gr < 0 ∧ ¬ nI 262143 < gr ∧ ¬ si < nI 9 ∧ si ≤ nI 49 then (true, if tg = nI 255 then pm_putC (pm_snd1 D x.toNatClampNeg (nI 1) tg gr si se (nI 50)) x.toNatClampNeg tg (nI 32) (si &&& nI 255) (si >>> (nI 8 &&& 31)) (pm_pk si) gr else pm_putC (pm_snd1 D x.toNatClampNeg (nI 2) tg gr si se (nI 1250)) x.toNatClampNeg tg (nI 16) (si &&& nI 255) (si >>> (nI 8 &&& 31)) (pm_pk si) gr) else (false, D) := by
  obtain ⟨t, fr, lo, I, J⟩ := D
  unfold pm_send
  simp only
  split
  · split <;> rfl
  · rfl
theorem busy_eq {D : zMd} {x y : Int32} : pm_busy D x y = if x < 0 then (false, D) else if nI 4 < x then (false, D) else if D.2.2.2.1 3 x.toNatClampNeg = y then (false, D) else (true, (D.1, D.2.1, D.2.2.1, up2 D.2.2.2.1 3 x.toNatClampNeg (vp_nar .boolean y), D.2.2.2.2)) := by
  obtain ⟨t, fr, lo, I, J⟩ := D
  rfl
section IF
variable {c : Nat} {B : zB} {H : Nat → zG} {D : zMd}
theorem RR.mk {t : Nat} (ht : t ≤ 2000 * c) (h : R5 t B H D) : RR c B H D := ⟨t, ht, h⟩
theorem RR.mk1 {t : Nat} (ht : t ≤ 2000 * c) (h : R5 t B H D) : RR (c + 1) B H D := ⟨t, by omega, h⟩
theorem rr_0 : RR 0 (fun _ => 0, fun _ => 0, fun _ => 0, 0, 0, 0) (fun _ => zG0) (0, 0, 0, fun _ _ => 0, fun _ _ => 0) := by
  refine ⟨0, by decide, ⟨rfl, rfl, rfl, by decide, rfl, fun i hi => absurd hi (Nat.not_lt_zero i)⟩, fun f _ => ?_⟩
  refine ⟨by decide, rfl, rfl, rfl, fun k hk => if_pos hk, Or.inl ⟨rfl, rfl⟩, ⟨rfl, fun z => absurd rfl z, rfl, rfl, rfl, rfl, ⟨0, by decide, rfl⟩, Or.inl ⟨rfl, rfl⟩⟩, RS.none rfl rfl rfl rfl (by decide) (by decide), ⟨rfl, ⟨0, by decide, rfl⟩, fun z => absurd z (by decide)⟩⟩
theorem rr_keep (h : RR c B H D) : RR (c + 1) B H D := by
  obtain ⟨t, ht, h⟩ := h
  exact ⟨t, by omega, h⟩
theorem rr_w1 (h : RR c B H D) : B.2.2.2.1 ≤ 48 := by
  obtain ⟨t, ht, h, -⟩ := h
  rw [h.2.2.1]
  exact h.2.2.2.1
theorem rr_w2 (h : RR c B H D) : D.2.1 ≤ 48 := by
  obtain ⟨t, ht, h, -⟩ := h
  exact h.2.2.2.1
theorem RV.o1 {t : Nat} {G : zG} {V : zV} (h : RV t G V) : G.2.2.2.1 ≤ 1 := by
  obtain ⟨ad, bz, nt, o, la, ou, x0, x1, de, st, nm, hd⟩ := G
  obtain ⟨⟨v0, v1, w2, v3, v4⟩, N, O, n, s0, s1, L⟩ := V
  exact h.1
theorem rr_o (h : RR c B H D) : ∀ g < 5, (H g).2.2.2.1 ≤ 1 := by
  obtain ⟨t, ht, -, h⟩ := h
  exact fun g hg => RV.o1 (h g hg)
theorem rr_zi (h : RR c B H D) : ∀ g < 5, zi (H g) := by
  obtain ⟨t, ht, -, h⟩ := h
  intro g hg
  obtain ⟨z, hz, -, ez⟩ := RV.si (h g hg)
  obtain ⟨e0, e1⟩ := RV.cl0 (h g hg)
  refine ⟨RV.o1 (h g hg), ⟨(z + 6) / 7, by omega, ?_⟩, Nat.lt_of_le_of_lt e0 (by decide), Nat.lt_of_le_of_lt e1 (by decide)⟩
  rw [ez]
  exact (pk_n z (by omega)).1
theorem RV.rl {t f : Nat} {G : zG} {D : zMd} (h : RV t G (vw D f)) : RL G.2.2.2.2.2.2.2.2.1 G.2.2.2.2.1 (D.2.2.2.1 28 f, D.2.2.2.1 29 (4 * f), D.2.2.2.1 29 (4 * f + 1), D.2.2.2.1 29 (4 * f + 2), D.2.2.2.1 29 (4 * f + 3), fun i => if i < 49 then D.2.2.2.1 30 (49 * f + i) else 0) := by
  obtain ⟨ad, bz, nt, o', la, ou', x0, x1, de, st, nm, hd⟩ := G
  exact h.2.2.2.2.2.2.2.2
theorem rr_len (h : RR c B H D) : ∀ f < 5, ∀ g : Nat, g < 2 ^ 31 → ¬ D.2.2.2.1 29 (4 * f + 2) ≤ nI g → g < 49 := by
  obtain ⟨t, ht, -, h⟩ := h
  intro f hf g hg hn
  have hl := RV.rl (h f hf)
  generalize (H f).2.2.2.2.1 = la at *
  obtain ⟨pk, so, gr, si, ta⟩ := la
  obtain ⟨-, ⟨z, hz, ez⟩, -⟩ := hl
  rw [ez, nI_leI (by omega) hg] at hn
  omega
theorem rr_start {x a : Int32} {name : Int64} {r1 r2 : Bool} {B1 : zB} {H1 : Nat → zG} {D1 : zMd} (h : RR c B H D) (h1 : pa_start B H x name a = (r1, B1, H1)) (h2 : pm_start D x name a = (r2, D1)) : r1 = r2 ∧ RR (c + 1) B1 H1 D1 := by
  obtain ⟨t, ht, h⟩ := h
  have h : R5 t B H D := h
  rw [start_eq] at h2
  unfold pa_start at h1
  have ho := on_x h x
  have hk := tk_eq h name 5 (Nat.le_refl _)
  by_cases hc : pa_isF x = true ∧ pa_isOn H x = false ∧ ¬ a < 0 ∧ ¬ nI 253 < a ∧ pa_tk H name 5 = false
  · rw [if_pos hc] at h1
    obtain ⟨c1, c2, c3, c4, c5⟩ := hc
    obtain ⟨f, hf, rfl⟩ := pa_isF_n c1
    obtain ⟨j, hj, rfl⟩ := nI_of c3
    have hj2 : j ≤ 253 := by
      rw [nI_ltI (by decide) hj] at c4
      omega
    have hst : (H f).2.2.2.2.2.2.2.2.2.1 = nI 0 := by
      unfold pa_isOn at c2
      rw [c1, pa_cl hf, Bool.true_and] at c2
      simp only [Bool.not_eq_false', decide_eq_true_eq] at c2
      exact c2
    rw [if_pos ⟨(isF_in hf).1, (isF_in hf).2, by rw [pa_cl hf, RV.st (h.2 f hf)]; exact hst, c3, (nI_leI hj (by decide)).mpr hj2, by rw [← hk, c5]; decide⟩, pa_cl hf] at h2
    rw [pa_cl hf] at h1
    obtain ⟨rfl, rfl⟩ := Prod.mk.inj h2
    obtain ⟨rfl, h1b⟩ := Prod.mk.inj h1
    obtain ⟨rfl, rfl⟩ := Prod.mk.inj h1b
    exact ⟨rfl, RR.mk1 ht (h.step (sim_on hf hj2 h.1 (h.2 f hf) hst))⟩
  · rw [if_neg hc] at h1
    have hc2 : ¬ (¬ x < 0 ∧ ¬ nI 4 < x ∧ D.2.2.2.1 0 x.toNatClampNeg = 0 ∧ ¬ a < 0 ∧ a ≤ nI 253 ∧ ¬ pm_tk D.2.2.2.1 D.2.2.2.2 name 5 = true) := by
      rintro ⟨c1, c2, c3, c4, c5, c6⟩
      have hF : pa_isF x = true := by
        rw [isF_eq]
        simp [c1, c2]
      obtain ⟨f, hf, rfl⟩ := pa_isF_n hF
      obtain ⟨j, hj, rfl⟩ := nI_of c4
      refine hc ⟨hF, ?_, c4, ?_, by rw [hk]; exact ts_nt c6⟩
      · rw [ho]
        unfold pm_on
        rw [decide_eq_true c3, Bool.not_true, Bool.and_false]
      · rw [nI_leI hj (by decide)] at c5
        exact nI_nlt (by omega) (by decide)
    rw [if_neg hc2] at h2
    obtain ⟨rfl, rfl⟩ := Prod.mk.inj h2
    obtain ⟨rfl, h1b⟩ := Prod.mk.inj h1
    obtain ⟨rfl, rfl⟩ := Prod.mk.inj h1b
    exact ⟨rfl, RR.mk1 ht h⟩
theorem rr_stop {x : Int32} {r1 r2 : Bool} {B1 : zB} {H1 : Nat → zG} {D1 : zMd} (h : RR c B H D) (h1 : pa_stop B H x = (r1, B1, H1)) (h2 : pm_stop D x = (r2, D1)) : r1 = r2 ∧ RR (c + 1) B1 H1 D1 := by
  obtain ⟨t, ht, h⟩ := h
  have h : R5 t B H D := h
  rw [stop_eq, ← on_x h x] at h2
  unfold pa_stop at h1
  by_cases hc : pa_isOn H x = true
  · rw [if_pos hc] at h1 h2
    obtain ⟨f, hf, rfl⟩ := pa_isOn_n hc
    rw [pa_cl hf] at h1 h2
    obtain ⟨rfl, rfl⟩ := Prod.mk.inj h2
    obtain ⟨rfl, h1b⟩ := Prod.mk.inj h1
    obtain ⟨rfl, rfl⟩ := Prod.mk.inj h1b
    refine ⟨rfl, RR.mk1 ht ?_⟩
    rw [off_eq]
    refine ⟨(h.1.mod bw_sp1).rm, fun g hg => ?_⟩
    rw [fr_vw]
    unfold foc
    by_cases e : g = f
    · rw [if_pos e, e]
      exact RV.off (h.2 f hf)
    · rw [if_neg e, vw_fr fr_sp1 e]
      exact h.2 g hg
  · rw [if_neg hc] at h1 h2
    obtain ⟨rfl, rfl⟩ := Prod.mk.inj h2
    obtain ⟨rfl, h1b⟩ := Prod.mk.inj h1
    obtain ⟨rfl, rfl⟩ := Prod.mk.inj h1b
    exact ⟨rfl, RR.mk1 ht h⟩
theorem RV.busy {t f : Nat} {G : zG} {D : zMd} {y : Bool} (h : RV t G (vw D f)) : RV t (pa_setBz G y) (vw (D.1, D.2.1, D.2.2.1, up2 D.2.2.2.1 3 f (zb y), D.2.2.2.2) f) := by
  have e : vw (D.1, D.2.1, D.2.2.1, up2 D.2.2.2.1 3 f (zb y), D.2.2.2.2) f = ((D.2.2.2.1 0 f, D.2.2.2.1 1 f, D.2.2.2.2 2 f, zb y, D.2.2.2.1 4 f), (vw D f).2) := by
    simp [vw, vwI, slv, up2_r]
  rw [e]
  obtain ⟨ad, bz, nt, o, la, ou, x0, x1, de, st, nm, hd⟩ := G
  obtain ⟨a1, a2, a3, a4, a5, a6, a7, a8, a9⟩ := h
  exact ⟨a1, rfl, a3, a4, a5, a6, a7, a8, a9⟩
theorem rr_busy {x : Int32} {y : Bool} {r1 r2 : Bool} {H1 : Nat → zG} {D1 : zMd} (h : RR c B H D) (h1 : pa_busy H x y = (r1, H1)) (h2 : pm_busy D x (zb y) = (r2, D1)) : r1 = r2 ∧ RR (c + 1) B H1 D1 := by
  obtain ⟨t, ht, h⟩ := h
  have h : R5 t B H D := h
  rw [busy_eq] at h2
  unfold pa_busy at h1
  by_cases hF : pa_isF x = true
  · obtain ⟨f, hf, rfl⟩ := pa_isF_n hF
    rw [if_neg (isF_in hf).1, if_neg (isF_in hf).2, pa_cl hf, RV.bz (h.2 f hf), nar_zb] at h2
    rw [pa_cl hf] at h1
    by_cases hy : (H f).2.1 = y
    · rw [if_pos (zb_eq.mpr hy)] at h2
      rw [if_neg (fun z => z.2 hy)] at h1
      obtain ⟨rfl, rfl⟩ := Prod.mk.inj h2
      obtain ⟨rfl, rfl⟩ := Prod.mk.inj h1
      exact ⟨rfl, RR.mk1 ht h⟩
    · rw [if_neg (fun z => hy (zb_eq.mp z))] at h2
      rw [if_pos ⟨hF, hy⟩] at h1
      obtain ⟨rfl, rfl⟩ := Prod.mk.inj h2
      obtain ⟨rfl, rfl⟩ := Prod.mk.inj h1
      refine ⟨rfl, RR.mk1 ht (h.step (P := (B, pa_setBz (H f) y)) ⟨h.1.mod (bw_up (by decide) (by decide)), ⟨rfl, FrI.up rfl FrI.rf, FrJ.rf⟩, RV.busy (h.2 f hf)⟩)⟩
  · have h2' : (false, D) = (r2, D1) := by
      rcases isF_out hF with q | q
      · rw [if_pos q] at h2
        exact h2
      · by_cases q0 : x < 0
        · rw [if_pos q0] at h2
          exact h2
        · rw [if_neg q0, if_pos q] at h2
          exact h2
    rw [if_neg (fun z => hF z.1)] at h1
    obtain ⟨rfl, rfl⟩ := Prod.mk.inj h2'
    obtain ⟨rfl, rfl⟩ := Prod.mk.inj h1
    exact ⟨rfl, RR.mk1 ht h⟩
theorem rr_request {x : Int32} {r1 r2 : Bool} {B1 : zB} {D1 : zMd} (h : RR c B H D) (h1 : pa_request B H x = (r1, B1)) (h2 : pm_request D x = (r2, D1)) : r1 = r2 ∧ RR (c + 1) B1 H D1 := by
  obtain ⟨t, ht, h⟩ := h
  have h : R5 t B H D := h
  unfold pm_request at h2
  rw [← on_x h x] at h2
  unfold pa_request at h1
  by_cases hc : pa_isOn H x = true
  · rw [if_pos hc] at h1 h2
    obtain ⟨f, hf, rfl, hs⟩ := on_c hc
    rw [pa_cl hf] at h1 h2
    obtain ⟨rfl, rfl⟩ := Prod.mk.inj h2
    obtain ⟨rfl, rfl⟩ := Prod.mk.inj h1
    obtain ⟨a, ha, ea, hsr⟩ := RV.srcN (h.2 f hf) hs
    refine ⟨rfl, RR.mk1 ht ⟨?_, fun g hg => by rw [vw_put]; exact h.2 g hg⟩⟩
    exact RB.put (pr := 6) (fm := 234) (tg := 255) h.1 hf ea hsr ha rfl (by decide) (by decide) (by decide) rfl (Or.inr (Or.inl rfl))
  · rw [if_neg hc] at h1 h2
    obtain ⟨rfl, rfl⟩ := Prod.mk.inj h2
    obtain ⟨rfl, rfl⟩ := Prod.mk.inj h1
    exact ⟨rfl, RR.mk1 ht h⟩
theorem RV.ph0 {t f : Nat} {G : zG} {D : zMd} (h : RV t G (vw D f)) : (¬ 0 < D.2.2.2.1 9 f) ↔ G.2.2.2.2.2.1.1 = 0 := by
  have hr := RV.ro h
  generalize G.2.2.2.2.2.1 = ou at *
  obtain ⟨ph, re, tg, gp, si, se, nx, du⟩ := ou
  obtain ⟨h1, h2, h3, h4, h5, h6, h7, h8⟩ := hr
  rw [h1]
  show (¬ 0 < ph) ↔ ph = 0
  rcases h8 with ⟨q, -⟩ | ⟨-, -, -, -, -, ⟨q, -⟩ | ⟨q | q, -⟩⟩
  · rw [q]; decide
  · rw [q]; decide
  · rw [q]; decide
  · rw [q]; decide
theorem tg_eq (t : Int32) : ((t = nI 255 ∨ (¬ t < 0 ∧ ¬ nI 253 < t)) ↔ (¬ t < 0 ∧ ¬ t = nI 254 ∧ ¬ nI 255 < t)) := by
  rw [← Int32.toInt_inj, ← Int32.toInt_inj, Int32.lt_iff_toInt_lt, Int32.lt_iff_toInt_lt, Int32.lt_iff_toInt_lt, nI_toInt (by decide), nI_toInt (by decide), nI_toInt (by decide), show (0 : Int32).toInt = 0 from rfl]
  omega
theorem can_eq {G : zG} {t : Int32} : (pf_can G t = true) ↔ ((t = nI 255 ∨ (¬ t < 0 ∧ ¬ nI 253 < t)) ∧ G.2.2.2.2.2.2.2.2.2.1 = nI 2 ∧ ¬ t = G.1 ∧ G.2.2.2.2.2.1.1 = 0) := by
  obtain ⟨ad, bz, nt, o, la, ou, x0, x1, de, st, nm, hd⟩ := G
  unfold pf_can
  simp only [Bool.and_eq_true, Bool.or_eq_true, Bool.not_eq_true', decide_eq_true_eq, decide_eq_false_iff_not]
  constructor
  · rintro ⟨⟨⟨q1, q2⟩, q3⟩, q4⟩
    exact ⟨q1, q2, q3, q4⟩
  · rintro ⟨q1, q2, q3, q4⟩
    exact ⟨⟨⟨q1, q2⟩, q3⟩, q4⟩
theorem rr_send {x t g z : Int32} {se : Int64} {r1 r2 : Bool} {B1 : zB} {H1 : Nat → zG} {D1 : zMd} (h : RR c B H D) (h1 : pa_send B H x t g z se = (r1, B1, H1)) (h2 : pm_send D x t g z se = (r2, D1)) : r1 = r2 ∧ RR (c + 1) B1 H1 D1 := by
  obtain ⟨tt, ht, h⟩ := h
  have h : R5 tt B H D := h
  rw [send_eq, ← on_x h x] at h2
  unfold pa_send at h1
  have hno : ∀ (c1 : ¬ (pa_isF x = true ∧ pf_can (H x.toNatClampNeg) t = true ∧ ¬ g < 0 ∧ ¬ nI 262143 < g ∧ ¬ z < nI 9 ∧ z ≤ nI 49)) (c2 : ¬ (pa_isOn H x = true ∧ D.2.2.2.1 0 x.toNatClampNeg = nI 2 ∧ ¬ 0 < D.2.2.2.1 9 x.toNatClampNeg ∧ ¬ t < 0 ∧ ¬ t = nI 254 ∧ ¬ nI 255 < t ∧ ¬ t = D.2.2.2.1 1 x.toNatClampNeg ∧ ¬ g < 0 ∧ ¬ nI 262143 < g ∧ ¬ z < nI 9 ∧ z ≤ nI 49)), r1 = r2 ∧ RR (c + 1) B1 H1 D1 := by
    intro c1 c2
    rw [if_neg c1] at h1
    rw [if_neg c2] at h2
    obtain ⟨rfl, rfl⟩ := Prod.mk.inj h2
    obtain ⟨rfl, h1b⟩ := Prod.mk.inj h1
    obtain ⟨rfl, rfl⟩ := Prod.mk.inj h1b
    exact ⟨rfl, RR.mk1 ht h⟩
  by_cases hF : pa_isF x = true
  · obtain ⟨f, hf, rfl⟩ := pa_isF_n hF
    rw [pa_cl hf] at h1 h2 hno
    have hv := h.2 f hf
    have hst := RV.st hv
    have hp0 := RV.ph0 hv
    by_cases h2' : (H f).2.2.2.2.2.2.2.2.2.1 = nI 2
    · obtain ⟨a0, ha0, ea, hsr, e1⟩ := RV.src2 hv h2'
      have hon : pa_isOn H (nI f) = true := by
        unfold pa_isOn
        rw [hF, pa_cl hf, h2']
        decide
      by_cases hc : pf_can (H f) t = true ∧ ¬ g < 0 ∧ ¬ nI 262143 < g ∧ ¬ z < nI 9 ∧ z ≤ nI 49
      · obtain ⟨c1, c2, c3, c4, c5⟩ := hc
        obtain ⟨q1, -, q3, q4⟩ := can_eq.mp c1
        rw [if_pos ⟨hF, c1, c2, c3, c4, c5⟩] at h1
        have q1' := (tg_eq t).mp q1
        rw [if_pos ⟨hon, by rw [hst]; exact h2', hp0.mpr q4, q1'.1, q1'.2.1, q1'.2.2, by rw [e1, ← ea]; exact q3, c2, c3, c4, c5⟩] at h2
        obtain ⟨b, hb, rfl⟩ := nI_of q1'.1
        obtain ⟨gn, hg, rfl⟩ := nI_of c2
        have hz0 : ¬ z < 0 := by
          rw [Int32.lt_iff_toInt_lt, nI_toInt (by decide)] at c4
          rw [Int32.lt_iff_toInt_lt, show (0 : Int32).toInt = 0 from rfl]
          omega
        obtain ⟨zn, hz, rfl⟩ := nI_of hz0
        rw [nI_ltI (by decide) hg] at c3
        rw [nI_ltI hz (by decide)] at c4
        rw [nI_leI hz (by decide)] at c5
        have hb2 : b = 255 ∨ b ≤ 253 := by
          rcases q1 with q | ⟨-, q⟩
          · exact Or.inl ((nI_eq hb (by decide)).mp q)
          · rw [nI_ltI (by decide) hb] at q
            omega
        have hS := sim_send (se := se) hf h.1 hv h2' hb2 (show gn ≤ 262143 by omega) (show 9 ≤ zn by omega) c5
        obtain ⟨rfl, rfl⟩ := Prod.mk.inj h2
        obtain ⟨rfl, h1b⟩ := Prod.mk.inj h1
        obtain ⟨rfl, rfl⟩ := Prod.mk.inj h1b
        exact ⟨rfl, RR.mk1 ht (h.step hS)⟩
      · refine hno (fun q => hc q.2) (fun q => hc ?_)
        obtain ⟨p1, p2, p3, p4, p5, p6, p7, p8⟩ := q
        exact ⟨can_eq.mpr ⟨(tg_eq t).mpr ⟨p4, p5, p6⟩, h2', by rw [ea, ← e1]; exact p7, hp0.mp p3⟩, p8⟩
    · exact hno (fun q => h2' (can_eq.mp q.2.1).2.1) (fun q => h2' (by rw [← hst]; exact q.2.1))
  · refine hno (fun q => hF q.1) (fun q => hF ?_)
    have := q.1
    unfold pa_isOn at this
    simp only [Bool.and_eq_true] at this
    exact this.1
theorem rr_lose {r1 r2 : Bool} {B1 : zB} {D1 : zMd} (h : RR c B H D) (h1 : pa_lose B = (r1, B1)) (h2 : pm_lose D = (r2, D1)) : r1 = r2 ∧ RR (c + 1) B1 H D1 := by
  obtain ⟨t, ht, h⟩ := h
  have h : R5 t B H D := h
  unfold pa_lose at h1
  unfold pm_lose at h2
  by_cases h0 : D.2.1 = 0
  · rw [if_pos h0] at h2
    rw [if_pos (h.1.2.2.1.trans h0)] at h1
    obtain ⟨rfl, rfl⟩ := Prod.mk.inj h2
    obtain ⟨rfl, rfl⟩ := Prod.mk.inj h1
    exact ⟨rfl, RR.mk1 ht h⟩
  · obtain ⟨q1, q2, q3⟩ := RB.least h.1 h0
    rw [if_neg h0] at h2
    rw [if_neg (by rw [q1]; exact h0), q2] at h1
    obtain ⟨rfl, rfl⟩ := Prod.mk.inj h2
    obtain ⟨rfl, rfl⟩ := Prod.mk.inj h1
    exact ⟨rfl, RR.mk1 ht (h.take q3)⟩
theorem rr_deliver (h : RR c B H D) (keep : Bool) : ∃ s : Nat, s < 5 ∧ (¬ B.2.2.2.1 = 0 → B.2.2.1 (pc_least B.1 (B.2.2.2.1 - 1)) = nI s) ∧ (¬ D.2.1 = 0 → D.2.2.2.1 8 (pc_least (D.2.2.2.1 6) (D.2.1 - 1)) = nI s) ∧ (¬ D.2.1 = 0 → ∀ k < 5, zm (pm_rch s ((D.2.2.2.1 6 (pc_least (D.2.2.2.1 6) (D.2.1 - 1)) >>> (nI 16 &&& 31)) &&& nI 255) ((D.2.2.2.1 6 (pc_least (D.2.2.2.1 6) (D.2.1 - 1)) >>> (nI 8 &&& 31)) &&& nI 255) (D.2.2.2.1 6 (pc_least (D.2.2.2.1 6) (D.2.1 - 1)) &&& nI 255) (D.2.2.2.2 7 (pc_least (D.2.2.2.1 6) (D.2.1 - 1))) k (if keep = true then D else pm_take D (pc_least (D.2.2.2.1 6) (D.2.1 - 1)))) k) ∧
    ∀ {r1 r2 : Bool} {B1 : zB} {H1 : Nat → zG} {D1 : zMd}, pa_deliver B H keep s = (r1, B1, H1) → pm_deliver D keep s = (r2, D1) → r1 = r2 ∧ RR (c + 1) B1 H1 D1 := by
  obtain ⟨t, ht, h⟩ := h
  obtain ⟨s, h1, h2, h3, h4, h5, h6⟩ := sim_deliver (t := t) h keep
  refine ⟨s, h1, h2, h3, h4, fun e1 e2 => ?_⟩
  rw [e1, e2] at h5 h6
  exact ⟨h5, RR.mk1 ht h6⟩
theorem rr_tick (h : RR c B H D) (hc : c < 512) (ms : Int32) : ((ms < nI 1 ∨ ¬ ms ≤ nI 2000) → pa_tick B H ms = (-1, B, H)) ∧ (¬ ms < nI 1 → ms ≤ nI 2000 → ∃ (N c' : Nat) (D' : zMd), pm_offs 20 (D.1 + ms) N 0 D = some (c', D') ∧ (pa_tick B H ms).1 = nI c' ∧ RR (c + 1) (pa_tick B H ms).2.1 (pa_tick B H ms).2.2 (pm_setNow D' (D.1 + ms))) := by
  constructor
  · intro hb
    unfold pa_tick
    by_cases h1 : ms < nI 1
    · rw [if_pos h1]
    · rw [if_neg h1, if_neg (hb.elim (fun z => absurd z h1) id)]
  · intro h1 h2
    obtain ⟨t, ht, h⟩ := h
    have h : R5 t B H D := h
    have hz0 : ¬ ms < 0 := by
      rw [Int32.lt_iff_toInt_lt, nI_toInt (by decide)] at h1
      rw [Int32.lt_iff_toInt_lt, show (0 : Int32).toInt = 0 from rfl]
      omega
    obtain ⟨m, hm, rfl⟩ := nI_of hz0
    have h1' := h1
    have h2' := h2
    rw [nI_ltI hm (by decide)] at h1'
    rw [nI_leI hm (by decide)] at h2'
    have e1 : D.1 + nI m = nI (t + m) := by rw [h.1.2.1, nI_add]
    have e2 : B.2.2.2.2.2 + (nI m).toInt64 = lN (t + m) := by rw [h.1.1, nI_l hm, lN_add]
    have hE : t + m < 2 ^ 30 := by omega
    have ht2 : t < 2 ^ 30 := by omega
    have hpS : pS (t + m) H < 1000 := by
      have hq : ∀ f, f < 5 → ps (t + m) (H f) ≤ 164 := by
        intro f hf
        obtain ⟨-, -, ⟨c1, c2, c3, c4⟩, -⟩ := RV.nums ht2 (h.2 f hf)
        have g1 := fi_le (E := t + m) c1 (by omega)
        have g2 := fi_le (E := t + m) c2 (by omega)
        have g3 := fi_le (E := t + m) c3 (by omega)
        have g4 := fi_le (E := t + m) c4 (by omega)
        unfold ps
        omega
      have p0 := hq 0 (by decide)
      have p1 := hq 1 (by decide)
      have p2 := hq 2 (by decide)
      have p3 := hq 3 (by decide)
      have p4 := hq 4 (by decide)
      unfold pS
      omega
    obtain ⟨c', D', t', r1, r2, r3, r4, r5⟩ := sim_offs hE 1000 0 t B H D h (by omega) hpS
    have eT : pa_tick B H (nI m) = (nI (pa_offs (lN (t + m)) 1000 0 B H).1, pa_setNow (pa_offs (lN (t + m)) 1000 0 B H).2.1 (lN (t + m)), (pa_offs (lN (t + m)) 1000 0 B H).2.2) := by
      unfold pa_tick
      rw [if_neg h1, if_pos h2, e2]
    refine ⟨1000, c', D', by rw [e1]; exact r1, by rw [eT, r2], ?_⟩
    rw [eT, e1]
    exact ⟨t + m, by omega, R5.time r4 (by omega) r3 (fun f hf => Nat.le_of_lt (r5 f hf))⟩
theorem rr_state (h : RR c B H D) (x : Int32) : pa_state H x = pm_state D.2.2.2.1 x := by
  obtain ⟨t, ht, -, h⟩ := h
  unfold pa_state pm_state
  by_cases hF : pa_isF x = true
  · obtain ⟨f, hf, rfl⟩ := pa_isF_n hF
    rw [if_pos hF, if_neg (isF_in hf).1, if_neg (isF_in hf).2, pa_cl hf, RV.st (h f hf)]
  · rw [if_neg hF]
    by_cases q0 : x < 0
    · rw [if_pos q0]
    · rw [if_neg q0, if_pos ((isF_out hF).elim (fun z => absurd z q0) id)]
theorem rr_address (h : RR c B H D) (x : Int32) : pa_address H x = pm_address D.2.2.2.1 x := by
  obtain ⟨t, ht, h⟩ := h
  have h : R5 t B H D := h
  unfold pa_address pm_address
  rw [← on_x h x]
  by_cases hc : pa_isOn H x = true
  · obtain ⟨f, hf, rfl, hs⟩ := on_c hc
    obtain ⟨a, ha, ea, hsr⟩ := RV.srcN (h.2 f hf) hs
    rw [if_pos hc, if_pos hc, pa_cl hf, ea, hsr]
  · rw [if_neg hc, if_neg hc]
theorem rr_noted (h : RR c B H D) (x y : Int32) : pa_noted H x y = pm_noted D.2.2.2.1 x y := by
  obtain ⟨t, ht, h⟩ := h
  have h : R5 t B H D := h
  unfold pa_noted pm_noted
  rw [← on_x h x]
  by_cases hc : pa_isOn H x = true
  · obtain ⟨f, hf, rfl, hs⟩ := on_c hc
    rw [if_pos hc, pa_cl hf]
    by_cases hF : pa_isF y = true
    · obtain ⟨k, hk, rfl⟩ := pa_isF_n hF
      rw [if_pos ⟨hc, hF⟩, if_neg (isF_in hk).1, if_neg (isF_in hk).2, pa_cl hk, RV.nt (h.2 f hf) k hk]
    · rw [if_neg (fun z => hF z.2)]
      by_cases q0 : y < 0
      · rw [if_pos q0]
      · rw [if_neg q0, if_pos ((isF_out hF).elim (fun z => absurd z q0) id)]
  · rw [if_neg hc, if_neg (fun z => hc z.1)]
theorem rr_waiting (h : RR c B H D) : nI B.2.2.2.1 = nI D.2.1 := by
  obtain ⟨t, ht, h, -⟩ := h
  rw [h.2.2.1]
theorem rr_identifier (h : RR c B H D) : pa_identifier B = pm_identifier D := by
  obtain ⟨t, ht, h, -⟩ := h
  unfold pa_identifier pm_identifier
  by_cases h0 : D.2.1 = 0
  · rw [if_pos h0, if_pos (h.2.2.1.trans h0)]
  · obtain ⟨q1, q2, q3⟩ := RB.least h h0
    rw [if_neg h0, if_neg (by rw [q1]; exact h0), q2]
    exact (h.2.2.2.2.2 _ q3).1
theorem rr_data (h : RR c B H D) : pa_data B = pm_data D := by
  obtain ⟨t, ht, h, -⟩ := h
  unfold pa_data pm_data
  by_cases h0 : D.2.1 = 0
  · rw [if_pos h0, if_pos (h.2.2.1.trans h0)]
  · obtain ⟨q1, q2, q3⟩ := RB.least h h0
    rw [if_neg h0, if_neg (by rw [q1]; exact h0), q2]
    exact (h.2.2.2.2.2 _ q3).2.1
theorem rr_overflowed (h : RR c B H D) : B.2.2.2.2.1 = D.2.2.1 := by
  obtain ⟨t, ht, h, -⟩ := h
  exact h.2.2.2.2.1
theorem rr_outgoing (h : RR c B H D) (x : Int32) : pa_outgoing H x = pm_outgoing D.2.2.2.1 x := by
  obtain ⟨t, ht, h⟩ := h
  have h : R5 t B H D := h
  unfold pa_outgoing pm_outgoing
  rw [← on_x h x]
  by_cases hc : pa_isOn H x = true
  · obtain ⟨f, hf, rfl, hs⟩ := on_c hc
    rw [if_pos hc, if_pos hc, pa_cl hf]
    have hr := RV.ro (h.2 f hf)
    generalize (H f).2.2.2.2.2.1 = ou at *
    obtain ⟨ph, re, tg, gp, si, se, nx, du⟩ := ou
    obtain ⟨h1, h2, h3, h4, h5, h6, h7, h8⟩ := hr
    rw [h1, h2 hs]
    show (if ph = 0 then re else ph) = _
    rcases h8 with ⟨q, -⟩ | ⟨-, -, -, -, -, ⟨q, -⟩ | ⟨q | q, -⟩⟩
    · rw [q, if_pos (by decide), if_pos (by decide)]
    · rw [q, if_neg (by decide), if_neg (by decide)]
    · rw [q, if_neg (by decide), if_neg (by decide)]
    · rw [q, if_neg (by decide), if_neg (by decide)]
  · rw [if_neg hc, if_neg hc]
theorem rr_incoming (h : RR c B H D) (x : Int32) : pa_incoming H x = pm_incoming D.2.2.2.1 x := by
  obtain ⟨t, ht, h⟩ := h
  have h : R5 t B H D := h
  unfold pa_incoming pm_incoming
  rw [← on_x h x]
  by_cases hc : pa_isOn H x = true
  · obtain ⟨f, hf, rfl, hs⟩ := on_c hc
    rw [if_pos hc, if_pos hc, pa_cl hf, RV.n (h.2 f hf), cnt_oc]
  · rw [if_neg hc, if_neg hc]
theorem RV.de {t f : Nat} {G : zG} {D : zMd} (h : RV t G (vw D f)) : D.2.2.2.1 28 f = G.2.2.2.2.2.2.2.2.1 := by
  have hl := RV.rl h
  generalize G.2.2.2.2.1 = la at *
  obtain ⟨pk, so, gr, si, ta⟩ := la
  exact hl.1
theorem rr_delivered (h : RR c B H D) (x : Int32) : pa_delivered H x = pm_delivered D.2.2.2.1 x := by
  obtain ⟨t, ht, h⟩ := h
  have h : R5 t B H D := h
  unfold pa_delivered pm_delivered
  rw [← on_x h x]
  by_cases hc : pa_isOn H x = true
  · obtain ⟨f, hf, rfl, hs⟩ := on_c hc
    rw [if_pos hc, if_pos hc, pa_cl hf, RV.de (h.2 f hf)]
  · rw [if_neg hc, if_neg hc]
theorem i_le0 (x : Int32) : (x ≤ 0) ↔ ¬ 0 < x := by
  rw [Int32.le_iff_toInt_le, Int32.lt_iff_toInt_lt]
  omega
theorem has_eq {f : Nat} {H : Nat → zG} (hf : f < 5) (hc : pa_isOn H (nI f) = true) : pa_has H (nI f) = decide (0 < (H f).2.2.2.2.2.2.2.2.1) := by
  unfold pa_has
  rw [hc, pa_cl hf, Bool.true_and]
theorem rr_message (h : RR c B H D) (x y : Int32) : pa_message H x y = pm_message D.2.2.2.1 x y := by
  obtain ⟨t, ht, h⟩ := h
  have h : R5 t B H D := h
  unfold pa_message pm_message
  rw [← on_x h x]
  by_cases hc : pa_isOn H x = true
  · obtain ⟨f, hf, rfl, hs⟩ := on_c hc
    rw [if_pos hc, has_eq hf hc, pa_cl hf]
    have hl := RV.rl (h.2 f hf)
    have hde := RV.de (h.2 f hf)
    generalize (H f).2.2.2.2.1 = la at *
    generalize (H f).2.2.2.2.2.2.2.2.1 = de at *
    obtain ⟨pk, so, gr, si, ta⟩ := la
    obtain ⟨-, -, hl⟩ := hl
    rw [hde]
    by_cases hd : 0 < de
    · rw [if_pos (decide_eq_true hd), if_neg (fun z => (i_le0 de).mp z hd)]
      obtain ⟨l0, l1, l2, l3, -⟩ := hl hd
      show (if y = nI 0 then so else if y = nI 1 then gr else if y = nI 2 then si else if y = nI 3 then zb ta else -1) = _
      by_cases q0 : y < 0
      · rw [if_pos q0]
        rw [if_neg, if_neg, if_neg, if_neg]
        all_goals
          intro e
          rw [e] at q0
          exact absurd q0 (by decide)
      · obtain ⟨j, hj, rfl⟩ := nI_of q0
        rw [if_neg q0]
        by_cases q1 : nI 3 < nI j
        · rw [if_pos q1]
          rw [nI_ltI (by decide) hj] at q1
          rw [if_neg, if_neg, if_neg, if_neg]
          all_goals
            intro e
            have := (nI_eq hj (by decide)).mp e
            omega
        · rw [if_neg q1, nI_clamp hj]
          rw [nI_ltI (by decide) hj] at q1
          rcases (show j = 0 ∨ j = 1 ∨ j = 2 ∨ j = 3 by omega) with rfl | rfl | rfl | rfl
          · rw [if_pos rfl]
            exact l0.symm
          · rw [if_neg (by decide), if_pos rfl]
            exact l1.symm
          · rw [if_neg (by decide), if_neg (by decide), if_pos rfl]
            exact l2.symm
          · rw [if_neg (by decide), if_neg (by decide), if_neg (by decide), if_pos rfl]
            exact l3.symm
    · rw [if_neg (by rw [decide_eq_false hd]; decide), if_pos ((i_le0 de).mpr hd)]
  · rw [if_neg hc, if_neg]
    unfold pa_has
    rw [ts_nt hc, Bool.false_and]
    decide
theorem ix7 : ∀ i, i < 49 → nI i - nI i / nI 7 * nI 7 + nI 2 = nI (i % 7 + 2) := by decide +kernel
theorem rr_byteOf (h : RR c B H D) (x y : Int32) : pa_byteOf H x y = pm_byteOf D.2.2.2.1 x y := by
  obtain ⟨t, ht, h⟩ := h
  have h : R5 t B H D := h
  unfold pa_byteOf pm_byteOf
  rw [← on_x h x]
  by_cases hc : pa_isOn H x = true
  · obtain ⟨f, hf, rfl, hs⟩ := on_c hc
    rw [if_pos hc, has_eq hf hc, pa_cl hf]
    have hl := RV.rl (h.2 f hf)
    have hde := RV.de (h.2 f hf)
    generalize (H f).2.2.2.2.1 = la at *
    generalize (H f).2.2.2.2.2.2.2.2.1 = de at *
    obtain ⟨pk, so, gr, si, ta⟩ := la
    obtain ⟨-, ⟨z, hz, ez⟩, hl⟩ := hl
    have ez : D.2.2.2.1 29 (4 * f + 2) = nI z := ez
    rw [hde]
    by_cases hd : 0 < de
    · rw [if_pos (decide_eq_true hd), if_neg (fun z => (i_le0 de).mp z hd)]
      obtain ⟨l0, l1, l2, l3, l4⟩ := hl hd
      have l2 : D.2.2.2.1 29 (4 * f + 2) = si := l2
      have l4 : ∀ i, i < 49 → nI i < si → (if i < 49 then D.2.2.2.1 30 (49 * f + i) else 0) = pc_fb (pk (i / 7)) (nI (i % 7 + 2)) := l4
      unfold pc_byteAt
      show (if y < 0 then -1 else if si ≤ y then -1 else if y < nI 49 then pc_fb (pk (y.toNatClampNeg / 7)) (y - y / nI 7 * nI 7 + nI 2) else -1) = _
      rw [l2]
      by_cases q0 : y < 0
      · rw [if_pos q0, if_pos q0]
      · obtain ⟨j, hj, rfl⟩ := nI_of q0
        rw [if_neg q0, if_neg q0]
        by_cases q1 : si ≤ nI j
        · rw [if_pos q1, if_pos q1]
        · rw [if_neg q1, if_neg q1]
          have esi : si = nI z := l2.symm.trans ez
          have hjz : j < z := by
            rw [esi, nI_leI (by omega) hj] at q1
            omega
          rw [if_pos (nI_lt (by omega) (by decide)), nI_clamp hj, ix7 j (by omega)]
          have := l4 j (by omega) (by rw [esi]; exact nI_lt hjz (by omega))
          rw [if_pos (by omega)] at this
          exact this.symm
    · rw [if_neg (by rw [decide_eq_false hd]; decide), if_pos ((i_le0 de).mpr hd)]
  · rw [if_neg hc, if_neg]
    unfold pa_has
    rw [ts_nt hc, Bool.false_and]
    decide
end IF
