/-! A frame reaches a function; delivery. -/
def R5 (t : Nat) (B : zB) (H : Nat → zG) (D : zMd) : Prop := RB t B D ∧ ∀ f, f < 5 → RV t (H f) (vw D f)
theorem R5.step {t f : Nat} {B : zB} {H : Nat → zG} {D D' : zMd} {P : zB × zG} (h : R5 t B H D) (hs : SIM t f D P D') : R5 t P.1 (foc H f P.2) D' := by
  refine ⟨hs.1, fun g hg => ?_⟩
  unfold foc
  by_cases e : g = f
  · rw [if_pos e, e]
    exact hs.2.2
  · rw [if_neg e, vw_fr hs.2.1 e]
    exact h.2 g hg
theorem reach_eq {B : zB} {num : Int32} {G : zG} {s : Nat} {id : Int32} {d : Int64} : pf_reach B num G s id d = if (id >>> (nI 16 &&& 31)) &&& nI 1023 = nI 238 then (if G.2.2.2.2.2.2.2.2.2.1 = 0 then (B, G) else pf_takeClaim B num G s (id &&& nI 255) d)
    else if (id >>> (nI 16 &&& 31)) &&& nI 1023 = nI 234 then (if G.2.2.2.2.2.2.2.2.2.1 = 0 then (B, G) else (pc_put B num G.1 (nI 418250752) (nI 255) G.2.2.2.2.2.2.2.2.2.2.1, G))
    else if G.2.2.2.2.2.2.2.2.2.1 = nI 2 ∧ ((id >>> (nI 8 &&& 31)) &&& nI 255 = nI 255 ∨ (id >>> (nI 8 &&& 31)) &&& nI 255 = G.1) then
      (if (id >>> (nI 16 &&& 31)) &&& nI 1023 = nI 236 then pf_control B num G (id &&& nI 255) d
      else pf_packet B num G (id &&& nI 255) (decide ((id >>> (nI 8 &&& 31)) &&& nI 255 = nI 255)) d)
    else (B, G) := by
  obtain ⟨ad, bz, nt, o, la, ou, x0, x1, de, st, nm, hd⟩ := G
  rfl
theorem sim_reach {t f s : Nat} {B : zB} {G : zG} {D : zMd} {id sn : Int32} {d : Int64} (hf : f < 5) (hs : s < 5) (hB : RB t B D) (h : RV t G (vw D f)) (hw : WF id d sn) : SIM t f D (pf_reach B (nI f) G s id d) (if pm_reached D.2.2.2.1 ((id >>> (nI 16 &&& 31)) &&& nI 255) ((id >>> (nI 8 &&& 31)) &&& nI 255) f = true then pm_reach D f (D.2.2.2.1 17 f).toNatClampNeg s ((id >>> (nI 16 &&& 31)) &&& nI 255) ((id >>> (nI 8 &&& 31)) &&& nI 255) (id &&& nI 255) d else D) := by
  have hst := RV.st h
  have hn := RV.n h
  have hc : (D.2.2.2.1 17 f).toNatClampNeg = oc (gses 0 G) + oc (gses 1 G) := by
    rw [hn]
    have := oc_le (gses 0 G)
    have := oc_le (gses 1 G)
    exact nI_clamp (by omega)
  have hid : SIM t f D (B, G) D := ⟨hB, Fr.rf, h⟩
  rw [hc, reach_eq]
  obtain ⟨pr, fm, tg, sr, sd, hp, ht, hsr, hsd, e, -, hfm⟩ := hw
  have hfm' : fm < 256 := by omega
  subst e
  rw [id_src hp hfm' ht (by omega), id_tg hp hfm' ht (by omega), id_fm hp hfm' ht (by omega), id_fm2 hp hfm' ht (by omega)]
  have hcl : ∀ c, c ≠ 238 → fm = c → ¬ nI fm = nI 238 := fun c h1 h2 q => by
    have := (nI_eq (by omega) (by decide)).mp q
    omega
  have hrq : ∀ c, c ≠ 234 → fm = c → ¬ nI fm = nI 234 := fun c h1 h2 q => by
    have := (nI_eq (by omega) (by decide)).mp q
    omega
  by_cases h238 : fm = 238
  · have e1 : nI fm = nI 238 := by rw [h238]
    rw [if_pos e1]
    unfold pm_reached pm_reach
    rw [if_pos (Or.inl e1), if_pos e1, hst]
    by_cases h0 : G.2.2.2.2.2.2.2.2.2.1 = 0
    · rw [if_pos h0, decide_eq_true h0]
      exact hid
    · rw [if_neg h0, decide_eq_false h0]
      exact sim_claimed hf hs hB h h0
  by_cases h234 : fm = 234
  · have e1 : nI fm = nI 234 := by rw [h234]
    have e0 := hcl 234 (by decide) h234
    rw [if_neg e0, if_pos e1]
    unfold pm_reached pm_reach
    rw [if_pos (Or.inr e1), if_neg e0, if_pos e1, hst]
    by_cases h0 : G.2.2.2.2.2.2.2.2.2.1 = 0
    · rw [if_pos h0, decide_eq_true h0]
      exact hid
    · rw [if_neg h0, decide_eq_false h0]
      exact sim_answer hf hB h h0
  have e0 := hcl fm h238 rfl
  have e1 := hrq fm h234 rfl
  rw [if_neg e0, if_neg e1]
  have e01 : ¬ (nI fm = nI 238 ∨ nI fm = nI 234) := fun z => z.elim e0 e1
  unfold pm_reached pm_reach
  rw [if_neg e01, if_neg e0, if_neg e1, hst]
  by_cases h2 : G.2.2.2.2.2.2.2.2.2.1 = nI 2
  · obtain ⟨a, ha, ea, -, e1a⟩ := RV.src2 h h2
    rw [e1a, ea, h2]
    by_cases htg : nI tg = nI 255 ∨ nI tg = nI a
    · have hb : (decide (nI 2 = nI 2) && (decide (nI tg = nI 255) || decide (nI tg = nI a))) = true := by
        simp only [Bool.and_eq_true, Bool.or_eq_true, decide_eq_true_eq]
        exact ⟨trivial, htg⟩
      rw [if_pos ⟨rfl, htg⟩, if_pos hb]
      rcases hfm with q | q | q | ⟨q, hs3, hct⟩
      · exact absurd q h238
      · exact absurd q h234
      · have e2 : ¬ nI fm = nI 236 := fun z => by
          have := (nI_eq (by omega) (by decide)).mp z
          omega
        rw [if_neg e2, if_neg e2]
        exact sim_packet hf hB h h2
      · have e2 : nI fm = nI 236 := by rw [q]
        rw [if_pos e2, if_pos e2]
        exact sim_control hf hB h h2 hs3 hct
    · have hb : ¬ (decide (nI 2 = nI 2) && (decide (nI tg = nI 255) || decide (nI tg = nI a))) = true := by
        simp only [Bool.and_eq_true, Bool.or_eq_true, decide_eq_true_eq]
        exact fun z => htg z.2
      rw [if_neg (fun z => htg z.2), if_neg hb]
      exact hid
  · have hb : ¬ (decide (G.2.2.2.2.2.2.2.2.2.1 = nI 2) && (decide (nI tg = nI 255) || decide (nI tg = D.2.2.2.1 1 f))) = true := by
      simp only [Bool.and_eq_true, decide_eq_true_eq]
      exact fun z => h2 z.1
    rw [if_neg (fun z => h2 z.1), if_neg hb]
    exact hid
theorem sim_rch {t s : Nat} {id sn : Int32} {d : Int64} (hs : s < 5) (hw : WF id d sn) {B : zB} {H : Nat → zG} {D : zMd} (h : R5 t B H D) : ∀ k, k ≤ 5 → R5 t (pa_reach s id d k B H).1 (pa_reach s id d k B H).2 (pm_rch s ((id >>> (nI 16 &&& 31)) &&& nI 255) ((id >>> (nI 8 &&& 31)) &&& nI 255) (id &&& nI 255) d k D)
  | 0, _ => h
  | k + 1, hk => by
    have ih := sim_rch hs hw h k (by omega)
    have e : pa_reach s id d (k + 1) B H = if k = s then pa_reach s id d k B H else ((pf_reach (pa_reach s id d k B H).1 (nI k) ((pa_reach s id d k B H).2 k) s id d).1, foc (pa_reach s id d k B H).2 k (pf_reach (pa_reach s id d k B H).1 (nI k) ((pa_reach s id d k B H).2 k) s id d).2) := rfl
    rw [e]
    unfold pm_rch
    generalize pa_reach s id d k B H = P at *
    generalize pm_rch s ((id >>> (nI 16 &&& 31)) &&& nI 255) ((id >>> (nI 8 &&& 31)) &&& nI 255) (id &&& nI 255) d k D = D1 at *
    by_cases hks : k = s
    · rw [if_pos hks, if_pos hks]
      exact ih
    · rw [if_neg hks, if_neg hks]
      exact ih.step (sim_reach (by omega) hs ih.1 (ih.2 k (by omega)) hw)
theorem RV.zm {t f : Nat} {G : zG} {D : zMd} (h : RV t G (vw D f)) : zm D f := by
  have hn := RV.n h
  obtain ⟨z, hz, ez, -⟩ := RV.si h
  have l0 := oc_le (gses 0 G)
  have l1 := oc_le (gses 1 G)
  refine ⟨oc (gses 0 G) + oc (gses 1 G), by omega, hn, ⟨(z + 6) / 7, by omega, by rw [ez]; exact (pk_n z (by omega)).2⟩, fun u h1 h2 => ?_⟩
  have hat : ∀ r, (gses r G).2.1 = true → ∃ e : Nat, 1 ≤ e ∧ e ≤ 7 ∧ D.2.2.2.1 22 (2 * f + gpl r G) = nI e := by
    intro r ho
    have hS := RV.at2 h ho
    generalize gses r G = x at *
    obtain ⟨⟨pk, so, gr, si, ta⟩, op, he, ex, lt, ak, du⟩ := x
    obtain ⟨⟨q1, q2, q3, q4, q5, q6, q7, -, -, ⟨y, hy1, hy2, -, hx1, hx2⟩, -⟩, -⟩ := hS
    have q6 : D.2.2.2.1 22 (2 * f + gpl r G) = nI ex := q6
    have hx1 : 1 ≤ ex := hx1
    have hx2 : ex ≤ (y + 6) / 7 := hx2
    exact ⟨ex, hx1, by omega, q6⟩
  by_cases g0 : (gses 0 G).2.1 = true
  · have p0 : gpl 0 G = 0 := rfl
    by_cases g1 : (gses 1 G).2.1 = true
    · have p1 : gpl 1 G = 1 := by
        unfold gpl
        rw [if_neg (by decide)]
        exact if_pos g0
      rw [oc_1 g0, oc_1 g1] at h2
      rcases (show u = 2 * f + 0 ∨ u = 2 * f + 1 by omega) with rfl | rfl
      · have q := hat 0 g0
        rw [p0] at q
        exact q
      · have q := hat 1 g1
        rw [p1] at q
        exact q
    · rw [oc_1 g0, oc_0 (ts_nt g1)] at h2
      have : u = 2 * f + 0 := by omega
      subst this
      have q := hat 0 g0
      rw [p0] at q
      exact q
  · rw [oc_0 (ts_nt g0)] at h2
    by_cases g1 : (gses 1 G).2.1 = true
    · have p1 : gpl 1 G = 0 := by
        unfold gpl
        rw [if_neg (by decide)]
        exact if_neg g0
      rw [oc_1 g1] at h2
      have : u = 2 * f + 0 := by omega
      subst this
      have q := hat 1 g1
      rw [p1] at q
      exact q
    · rw [oc_0 (ts_nt g1)] at h2
      omega
theorem R5.take {t p : Nat} {B : zB} {H : Nat → zG} {D : zMd} (h : R5 t B H D) (hp : p < D.2.1) : R5 t (pc_take B p) H (pm_take D p) := ⟨h.1.take hp, fun f hf => by rw [vw_take]; exact h.2 f hf⟩
theorem sim_deliver {t : Nat} {B : zB} {H : Nat → zG} {D : zMd} (h : R5 t B H D) (keep : Bool) : ∃ s : Nat, s < 5 ∧ (¬ B.2.2.2.1 = 0 → B.2.2.1 (pc_least B.1 (B.2.2.2.1 - 1)) = nI s) ∧ (¬ D.2.1 = 0 → D.2.2.2.1 8 (pc_least (D.2.2.2.1 6) (D.2.1 - 1)) = nI s) ∧ (¬ D.2.1 = 0 → ∀ k < 5, zm (pm_rch s ((D.2.2.2.1 6 (pc_least (D.2.2.2.1 6) (D.2.1 - 1)) >>> (nI 16 &&& 31)) &&& nI 255) ((D.2.2.2.1 6 (pc_least (D.2.2.2.1 6) (D.2.1 - 1)) >>> (nI 8 &&& 31)) &&& nI 255) (D.2.2.2.1 6 (pc_least (D.2.2.2.1 6) (D.2.1 - 1)) &&& nI 255) (D.2.2.2.2 7 (pc_least (D.2.2.2.1 6) (D.2.1 - 1))) k (if keep = true then D else pm_take D (pc_least (D.2.2.2.1 6) (D.2.1 - 1)))) k) ∧
    (pa_deliver B H keep s).1 = (pm_deliver D keep s).1 ∧ R5 t (pa_deliver B H keep s).2.1 (pa_deliver B H keep s).2.2 (pm_deliver D keep s).2 := by
  by_cases h0 : D.2.1 = 0
  · have hB0 : B.2.2.2.1 = 0 := h.1.2.2.1.trans h0
    refine ⟨0, by decide, fun z => absurd hB0 z, fun z => absurd h0 z, fun z => absurd h0 z, ?_⟩
    unfold pa_deliver pm_deliver
    rw [if_pos h0, if_pos hB0]
    exact ⟨rfl, h⟩
  · obtain ⟨hc, hle, hlt⟩ := RB.least h.1 h0
    have hB0 : ¬ B.2.2.2.1 = 0 := by rw [hc]; exact h0
    have hfr := h.1.2.2.2.2.2 _ hlt
    have hp : ∀ k : Bool, R5 t (if k = true then B else pc_take B (pc_least (D.2.2.2.1 6) (D.2.1 - 1))) H (if k = true then D else pm_take D (pc_least (D.2.2.2.1 6) (D.2.1 - 1))) := by
      intro k
      cases k with
      | true => exact h
      | false => exact h.take hlt
    have eP : ∀ s, pa_deliver B H keep s = (true, pa_reach s (B.1 (pc_least (D.2.2.2.1 6) (D.2.1 - 1))) (B.2.1 (pc_least (D.2.2.2.1 6) (D.2.1 - 1))) 5 (if keep = true then B else pc_take B (pc_least (D.2.2.2.1 6) (D.2.1 - 1))) H) := by
      intro s
      unfold pa_deliver
      rw [if_neg hB0, hle]
    have eM : ∀ s, pm_deliver D keep s = (true, pm_rch s ((D.2.2.2.1 6 (pc_least (D.2.2.2.1 6) (D.2.1 - 1)) >>> (nI 16 &&& 31)) &&& nI 255) ((D.2.2.2.1 6 (pc_least (D.2.2.2.1 6) (D.2.1 - 1)) >>> (nI 8 &&& 31)) &&& nI 255) (D.2.2.2.1 6 (pc_least (D.2.2.2.1 6) (D.2.1 - 1)) &&& nI 255) (D.2.2.2.2 7 (pc_least (D.2.2.2.1 6) (D.2.1 - 1))) 5 (if keep = true then D else pm_take D (pc_least (D.2.2.2.1 6) (D.2.1 - 1)))) := by
      intro s
      unfold pm_deliver
      rw [if_neg h0]
    rw [hle]
    generalize pc_least (D.2.2.2.1 6) (D.2.1 - 1) = p at *
    obtain ⟨q1, q2, q3, q4⟩ := hfr
    have q5 : ∃ sd : Nat, sd < 5 ∧ D.2.2.2.1 8 p = nI sd := by
      obtain ⟨-, -, -, -, sd, -, -, -, hsd, -, e, -⟩ := q4
      exact ⟨sd, hsd, e⟩
    obtain ⟨s, hs, es⟩ := q5
    refine ⟨s, hs, fun _ => q3.trans es, fun _ => es, fun _ k hk => ?_, ?_⟩
    · exact RV.zm ((sim_rch hs q4 (hp keep) k (by omega)).2 k hk)
    · rw [eP, eM, q1, q2]
      exact ⟨rfl, sim_rch hs q4 (hp keep) 5 (Nat.le_refl _)⟩
