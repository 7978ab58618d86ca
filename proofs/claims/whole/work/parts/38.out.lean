/-! Openings, and outgoing sessions. -/
theorem SIM.tr {t f : Nat} {D D1 D2 : zMd} {P1 P2 : zB × zG} (h1 : SIM t f D P1 D1) (h2 : SIM t f D1 P2 D2) : SIM t f D P2 D2 := ⟨h2.1, h1.2.1.tr h2.2.1, h2.2.2⟩
theorem from_end {x : zIn} {src : Int32} {tb : Bool} : ¬ pc_isFrom (pc_iend x) src tb = true := by
  obtain ⟨⟨pk, so, gr, si, ta⟩, op, he, ex, lt, ak, du⟩ := x
  intro h
  have := from_open h
  cases this
theorem oc_end {x : zIn} : oc (pc_iend x) = 0 := by
  obtain ⟨⟨pk, so, gr, si, ta⟩, op, he, ex, lt, ak, du⟩ := x
  rfl
theorem cnt_oc (G : zG) : pf_count G = oc (gses 0 G) + oc (gses 1 G) := by
  obtain ⟨ad, bz, nt, o, la, ou, x0, x1, de, st, nm, hd⟩ := G
  rfl
theorem oc_le (x : zIn) : oc x ≤ 1 := by
  unfold oc
  split <;> omega
theorem sim_opening {t f g a' : Nat} {B : zB} {G : zG} {D : zMd} {d : Int64} {tb : Bool} (hf : f < 5) (hB : RB t B D) (h : RV t G (vw D f)) (h2 : G.2.2.2.2.2.2.2.2.2.1 = nI 2) (ha' : a' ≤ 253) (hg : g < 16777216) (hz : SZ d) : SIM t f D (pf_opening B (nI f) G (nI a') (nI g) d tb) (pm_opened D f (oc (gses 0 G) + oc (gses 1 G)) (nI a') (pm_fb2 d + nI 256 * pm_fb3 d) (nI g) (zb tb)) := by
  obtain ⟨z, hz1, hz2, ez⟩ := hz
  have hgl := gpl_lt 0 G
  have hgl1 := gpl_lt 1 G
  have hst2 : ∀ r x, (gset r x G).2.2.2.2.2.2.2.2.2.1 = nI 2 := by
    intro r x
    rw [← h2]
    obtain ⟨ad, bz, nt, o, la, ou, x0, x1, de, st, nm, hd⟩ := G
    rfl
  unfold pm_opened
  rw [find_n h (nI a') tb]
  rw [← fb_sz, ez]
  by_cases q0 : pc_isFrom (gses 0 G) (nI a') tb = true
  · have q1 := RV.diff h q0
    rw [if_pos q0, if_neg (nI_neg (by omega)), nI_clamp (by omega)]
    have hc := sim_close hB h (from_open q0)
    have e : pf_drop G (nI a') tb = gset 0 (pc_iend (gses 0 G)) G := by
      obtain ⟨ad, bz, nt, o, la, ou, x0, x1, de, st, nm, hd⟩ := G
      have q0 : pc_isFrom x0 (nI a') tb = true := q0
      have q1 : pc_isFrom x1 (nI a') tb = false := q1
      unfold pf_drop
      simp only
      rw [if_pos q0, if_neg (by rw [q1]; decide)]
      rfl
    have e0 : gses 0 (gset 0 (pc_iend (gses 0 G)) G) = pc_iend (gses 0 G) := by
      obtain ⟨ad, bz, nt, o, la, ou, x0, x1, de, st, nm, hd⟩ := G
      rfl
    have e1 : gses 1 (gset 0 (pc_iend (gses 0 G)) G) = gses 1 G := by
      obtain ⟨ad, bz, nt, o, la, ou, x0, x1, de, st, nm, hd⟩ := G
      rfl
    have ek : oc (gses 0 G) + oc (gses 1 G) - 1 = oc (gses 0 (gset 0 (pc_iend (gses 0 G)) G)) + oc (gses 1 (gset 0 (pc_iend (gses 0 G)) G)) := by
      rw [e0, e1, oc_end, oc_1 (from_open q0)]
      omega
    have hlt : oc (gses 0 (gset 0 (pc_iend (gses 0 G)) G)) + oc (gses 1 (gset 0 (pc_iend (gses 0 G)) G)) < 2 := by
      rw [e0, e1, oc_end]
      have := oc_le (gses 1 G)
      omega
    have eo : pf_opening B (nI f) G (nI a') (nI g) d tb = pf_begin B (nI f) (pf_room (gset 0 (pc_iend (gses 0 G)) G)) (nI a') (nI g) (nI z) tb := by
      unfold pf_opening
      rw [e, cnt_oc, if_neg (nI_ge hlt (by decide)), ez]
    rw [eo, ek]
    exact hc.tr (sim_pbegin hf hc.1 hc.2.2 (hst2 _ _) ha' hg hz1 hz2 (by rw [e0]; exact from_end) (by rw [e1, q1]; decide) hlt)
  · rw [if_neg q0]
    by_cases q1 : pc_isFrom (gses 1 G) (nI a') tb = true
    · rw [if_pos q1, if_neg (nI_neg (by omega)), nI_clamp (by omega)]
      have hc := sim_close hB h (from_open q1)
      have e : pf_drop G (nI a') tb = gset 1 (pc_iend (gses 1 G)) G := by
        obtain ⟨ad, bz, nt, o, la, ou, x0, x1, de, st, nm, hd⟩ := G
        have q0 : ¬ pc_isFrom x0 (nI a') tb = true := q0
        have q1 : pc_isFrom x1 (nI a') tb = true := q1
        unfold pf_drop
        simp only
        rw [if_neg q0, if_pos q1]
        rfl
      have e0 : gses 0 (gset 1 (pc_iend (gses 1 G)) G) = gses 0 G := by
        obtain ⟨ad, bz, nt, o, la, ou, x0, x1, de, st, nm, hd⟩ := G
        rfl
      have e1 : gses 1 (gset 1 (pc_iend (gses 1 G)) G) = pc_iend (gses 1 G) := by
        obtain ⟨ad, bz, nt, o, la, ou, x0, x1, de, st, nm, hd⟩ := G
        rfl
      have ek : oc (gses 0 G) + oc (gses 1 G) - 1 = oc (gses 0 (gset 1 (pc_iend (gses 1 G)) G)) + oc (gses 1 (gset 1 (pc_iend (gses 1 G)) G)) := by
        rw [e0, e1, oc_end, oc_1 (from_open q1)]
        omega
      have hlt : oc (gses 0 (gset 1 (pc_iend (gses 1 G)) G)) + oc (gses 1 (gset 1 (pc_iend (gses 1 G)) G)) < 2 := by
        rw [e0, e1, oc_end]
        have := oc_le (gses 0 G)
        omega
      have eo : pf_opening B (nI f) G (nI a') (nI g) d tb = pf_begin B (nI f) (pf_room (gset 1 (pc_iend (gses 1 G)) G)) (nI a') (nI g) (nI z) tb := by
        unfold pf_opening
        rw [e, cnt_oc, if_neg (nI_ge hlt (by decide)), ez]
      rw [eo, ek]
      exact hc.tr (sim_pbegin hf hc.1 hc.2.2 (hst2 _ _) ha' hg hz1 hz2 (by rw [e0]; exact q0) (by rw [e1]; exact from_end) hlt)
    · rw [if_neg q1, if_pos (by decide)]
      have e : pf_drop G (nI a') tb = G := by
        obtain ⟨ad, bz, nt, o, la, ou, x0, x1, de, st, nm, hd⟩ := G
        have q0 : ¬ pc_isFrom x0 (nI a') tb = true := q0
        have q1 : ¬ pc_isFrom x1 (nI a') tb = true := q1
        unfold pf_drop
        simp only
        rw [if_neg q0, if_neg q1]
      by_cases hk : oc (gses 0 G) + oc (gses 1 G) = 2
      · rw [if_pos hk]
        have eo : pf_opening B (nI f) G (nI a') (nI g) d tb = if tb = true then (B, G) else (pc_put B (nI f) G.1 (nI 485228544) (nI a') (pc_abt (nI 2) (nI g)), G) := by
          unfold pf_opening
          rw [e, cnt_oc, hk, if_pos (by decide)]
        rw [eo]
        cases tb with
        | true =>
          rw [if_pos rfl, if_neg (by decide)]
          exact ⟨hB, Fr.rf, h⟩
        | false =>
          rw [if_neg (by decide), if_pos (by decide)]
          obtain ⟨a, ha, ea, hsr, -⟩ := RV.src2 h h2
          rw [ea]
          exact ⟨sim_abt hB hf hsr ha ha' (by decide) hg, fr_put, by rw [show vw (pm_putA D f (nI a') (nI 2) (nI g)) f = vw D f from vw_put]; exact h⟩
      · rw [if_neg hk]
        have hlt : oc (gses 0 G) + oc (gses 1 G) < 2 := by
          have := oc_le (gses 0 G)
          have := oc_le (gses 1 G)
          omega
        have eo : pf_opening B (nI f) G (nI a') (nI g) d tb = pf_begin B (nI f) (pf_room G) (nI a') (nI g) (nI z) tb := by
          unfold pf_opening
          rw [e, cnt_oc, if_neg (nI_ge hlt (by decide)), ez]
        rw [eo]
        exact sim_pbegin hf hB h h2 ha' hg hz1 hz2 q0 q1 hlt
/-! Outgoing sessions -/
def vO (o : zVo) (V : zV) : zV := (V.1, V.2.1, o, V.2.2.2)
theorem RV.ou {t : Nat} {G : zG} {V : zV} {ou : zOu} {o : zVo} (h : RV t G V) (hO : RO t G.2.2.2.2.2.2.2.2.2.1 ou o) : RV t (pf_setOu G ou) (vO o V) := by
  obtain ⟨ad, bz, nt, o', la, ou', x0, x1, de, st, nm, hd⟩ := G
  obtain ⟨⟨v0, v1, w2, v3, v4⟩, N, O, n, s0, s1, L⟩ := V
  obtain ⟨a1, a2, a3, a4, a5, a6, a7, a8, a9⟩ := h
  exact ⟨a1, a2, a3, a4, a5, a6, hO, a8, a9⟩
theorem RV.ro {t f : Nat} {G : zG} {D : zMd} (h : RV t G (vw D f)) : RO t G.2.2.2.2.2.2.2.2.2.1 G.2.2.2.2.2.1 (D.2.2.2.1 9 f, D.2.2.2.1 10 f, D.2.2.2.1 11 f, D.2.2.2.1 12 f, D.2.2.2.1 13 f, D.2.2.2.2 14 f, D.2.2.2.1 15 f, D.2.2.2.1 16 f) := by
  obtain ⟨ad, bz, nt, o', la, ou', x0, x1, de, st, nm, hd⟩ := G
  exact h.2.2.2.2.2.2.1
theorem vw_fin {D : zMd} {f : Nat} {how : Int32} : vw (pm_fin D f how) f = vO (nI 0, how, D.2.2.2.1 11 f, D.2.2.2.1 12 f, D.2.2.2.1 13 f, D.2.2.2.2 14 f, D.2.2.2.1 15 f, D.2.2.2.1 16 f) (vw D f) := by
  obtain ⟨t, fr, lo, I, J⟩ := D
  simp [vw, vwI, slv, up2_r, vO, pm_fin]
theorem fr_fin {D : zMd} {f : Nat} {how : Int32} : Fr f D (pm_fin D f how) := by
  obtain ⟨t, fr, lo, I, J⟩ := D
  exact ⟨rfl, FrI.up rfl (FrI.up rfl FrI.rf), FrJ.rf⟩
theorem bw_fin {D : zMd} {f : Nat} {how : Int32} : bwE D (pm_fin D f how) := by
  obtain ⟨t, fr, lo, I, J⟩ := D
  refine ⟨rfl, rfl, rfl, ?_, ?_, rfl⟩
  · simp (disch := decide) only [pm_fin, up2_row]
  · simp (disch := decide) only [pm_fin, up2_row]
theorem sim_fin {t f : Nat} {B : zB} {G : zG} {D : zMd} {how : Int32} (hB : RB t B D) (h : RV t G (vw D f)) : SIM t f D (B, pf_setOu G (pc_oend G.2.2.2.2.2.1 how)) (pm_fin D f how) := by
  refine ⟨hB.mod bw_fin, fr_fin, ?_⟩
  rw [vw_fin]
  refine RV.ou h ?_
  have hr := RV.ro h
  generalize G.2.2.2.2.2.1 = ou at *
  obtain ⟨ph, re, tg, gr, si, se, nx, du⟩ := ou
  obtain ⟨h1, h2, h3, h4, h5, h6, h7, h8⟩ := hr
  exact ⟨rfl, fun _ => rfl, h3, h4, h5, h6, h7, Or.inl ⟨rfl, rfl⟩⟩
theorem putP_eq {D : zMd} {f : Nat} {k : Int32} : pm_putP D f k = pm_put D f (nI 7) (nI 235) (D.2.2.2.1 11 f) (pm_acc (D.2.2.2.1 13 f) (D.2.2.2.2 14 f) k 7) := by
  obtain ⟨t, fr, lo, I, J⟩ := D
  rfl
theorem sim_putP {t f a g k : Nat} {B : zB} {D : zMd} {ou : zOu} (hB : RB t B D) (hf : f < 5) (hsr : pm_src D.2.2.2.1 f = nI a) (ha : a ≤ 254) (hg : g < 256) (htg : ou.2.2.1 = nI g) (e1 : D.2.2.2.1 11 f = ou.2.2.1) (e2 : D.2.2.2.1 13 f = ou.2.2.2.2.1) (e3 : D.2.2.2.2 14 f = ou.2.2.2.2.2.1) (hk : k < 256) : RB t (pc_sendPkt B (nI f) (nI a) ou (nI k)) (pm_putP D f (nI k)) := by
  rw [putP_eq, e1, e2, e3]
  exact RB.put (pr := 7) (fm := 235) hB hf rfl hsr ha htg hg (by decide) (by decide) (acc_eq hk) (Or.inr (Or.inr (Or.inl rfl)))
theorem src_put {D : zMd} {f g : Nat} {pr fm tg : Int32} {d : Int64} : pm_src (pm_put D f pr fm tg d).2.2.2.1 g = pm_src D.2.2.2.1 g := by
  unfold pm_src
  rw [pm_put_I (by decide) (by decide), pm_put_I (by decide) (by decide)]
theorem sim_sends {t f a g : Nat} {ou : zOu} (hf : f < 5) (ha : a ≤ 254) (hg : g < 256) (htg : ou.2.2.1 = nI g) : ∀ (k b : Nat) (B : zB) (D : zMd), b + k ≤ 256 → RB t B D → pm_src D.2.2.2.1 f = nI a → D.2.2.2.1 11 f = ou.2.2.1 → D.2.2.2.1 13 f = ou.2.2.2.2.1 → D.2.2.2.2 14 f = ou.2.2.2.2.2.1 → RB t (pc_sends (nI f) (nI a) ou k b B) (pm_sends f k b D) ∧ Fr f D (pm_sends f k b D) ∧ vw (pm_sends f k b D) f = vw D f
  | 0, b, B, D, hk, hB, hsr, e1, e2, e3 => ⟨hB, Fr.rf, rfl⟩
  | k + 1, b, B, D, hk, hB, hsr, e1, e2, e3 => by
    have h1 := sim_putP (k := b) hB hf hsr ha hg htg e1 e2 e3 (by omega)
    have hI : ∀ c, c ≠ 6 → c ≠ 8 → ∀ j, (pm_putP D f (nI b)).2.2.2.1 c j = D.2.2.2.1 c j := fun c h6 h8 j => pm_putP_I h6 h8 j
    have hJ : ∀ j, (pm_putP D f (nI b)).2.2.2.2 14 j = D.2.2.2.2 14 j := fun j => by rw [putP_eq]; exact pm_put_J (by decide) j
    have h2 := sim_sends hf ha hg htg k (b + 1) (pc_sendPkt B (nI f) (nI a) ou (nI b)) (pm_putP D f (nI b)) (by omega) h1 (by rw [putP_eq, src_put]; exact hsr) (by rw [hI 11 (by decide) (by decide)]; exact e1) (by rw [hI 13 (by decide) (by decide)]; exact e2) (by rw [hJ]; exact e3)
    refine ⟨h2.1, Fr.tr (by rw [putP_eq]; exact fr_put) h2.2.1, h2.2.2.trans (by rw [putP_eq]; exact vw_put)⟩
theorem pc_sends_now {n a : Int32} {ou : zOu} : ∀ (k b : Nat) (B : zB), (pc_sends n a ou k b B).2.2.2.2.2 = B.2.2.2.2.2
  | 0, _, _ => rfl
  | k + 1, b, B => (pc_sends_now k (b + 1) _).trans pc_put_now
theorem grN {a c s : Nat} (h : 1 ≤ c) : pc_grantN a c s = pm_grantN a c s := by
  unfold pc_grantN pm_grantN
  omega
theorem with_eq {t f : Nat} {G : zG} {D : zMd} {src gr : Int32} (h : RV t G (vw D f)) : pm_ans D.2.2.2.1 f src gr = pc_isWith G.2.2.2.2.2.1 src gr := by
  have hr := RV.ro h
  generalize G.2.2.2.2.2.1 = ou at *
  obtain ⟨ph, re, tg, gp, si, se, nx, du⟩ := ou
  obtain ⟨h1, h2, h3, h4, h5, h6, h7, h8⟩ := hr
  unfold pm_ans pc_isWith
  simp only
  rw [h1, h3, h4]
  congr 2
  rcases h8 with ⟨q, -⟩ | ⟨-, -, -, -, -, q⟩
  · rw [q]
    decide
  · rcases q with ⟨q, -⟩ | ⟨q | q, -⟩
    · rw [q]
      decide
    · rw [q]
      decide
    · rw [q]
      decide
theorem with_ph {ou : zOu} {src gr : Int32} (h : pc_isWith ou src gr = true) : ou.1 = nI 2 ∨ ou.1 = nI 3 := by
  obtain ⟨ph, re, tg, gp, si, se, nx, du⟩ := ou
  simp only [pc_isWith, Bool.and_eq_true, Bool.or_eq_true, decide_eq_true_eq] at h
  exact h.1.1
def pm_grd1 (D : zMd) (f c : Nat) : zMd := match D with
  | (t, fr, lo, I, J) => (t, fr, lo, up2 (up2 I 9 f (if c = 0 then nI 3 else nI 2)) 16 f (t + (if c = 0 then nI 1050 else nI 1250)), J)
theorem grd_eq {D : zMd} {f c a s : Nat} : pm_granted D f c a s = pm_sends f (pm_grantN a c s) a (pm_grd1 D f c) := by
  obtain ⟨t, fr, lo, I, J⟩ := D
  rfl
theorem vw_grd1 {D : zMd} {f c : Nat} : vw (pm_grd1 D f c) f = vO ((if c = 0 then nI 3 else nI 2), D.2.2.2.1 10 f, D.2.2.2.1 11 f, D.2.2.2.1 12 f, D.2.2.2.1 13 f, D.2.2.2.2 14 f, D.2.2.2.1 15 f, D.1 + (if c = 0 then nI 1050 else nI 1250)) (vw D f) := by
  obtain ⟨t, fr, lo, I, J⟩ := D
  simp [vw, vwI, slv, up2_r, vO, pm_grd1]
theorem fr_grd1 {D : zMd} {f c : Nat} : Fr f D (pm_grd1 D f c) := by
  obtain ⟨t, fr, lo, I, J⟩ := D
  exact ⟨rfl, FrI.up rfl (FrI.up rfl FrI.rf), FrJ.rf⟩
theorem bw_grd1 {D : zMd} {f c : Nat} : bwE D (pm_grd1 D f c) := by
  obtain ⟨t, fr, lo, I, J⟩ := D
  refine ⟨rfl, rfl, rfl, ?_, ?_, rfl⟩
  · simp (disch := decide) only [pm_grd1, up2_row]
  · simp (disch := decide) only [pm_grd1, up2_row]
theorem rd_grd1 {D : zMd} {f c a j : Nat} (h9 : a ≠ 9) (h16 : a ≠ 16) : (pm_grd1 D f c).2.2.2.1 a j = D.2.2.2.1 a j := by
  obtain ⟨t, fr, lo, I, J⟩ := D
  unfold pm_grd1
  simp only
  rw [up2_row _ _ _ h16, up2_row _ _ _ h9]
theorem rdJ_grd1 {D : zMd} {f c : Nat} : (pm_grd1 D f c).2.2.2.2 = D.2.2.2.2 := by
  obtain ⟨t, fr, lo, I, J⟩ := D
  rfl
theorem sim_granted {t f c a s : Nat} {B : zB} {G : zG} {D : zMd} {src gr : Int32} (hf : f < 5) (hB : RB t B D) (h : RV t G (vw D f)) (hw : pc_isWith G.2.2.2.2.2.1 src gr = true) (hs : s ≤ 7) (hc : c < 256) (ha : a < 256) : SIM t f D ((pc_takeGrant B (nI f) G.1 G.2.2.2.2.2.1 c a s).1, pf_setOu G (pc_takeGrant B (nI f) G.1 G.2.2.2.2.2.1 c a s).2) (pm_granted D f c a s) := by
  have hr := RV.ro h
  have hph := with_ph hw
  have hsr0 : ∀ h2 : G.2.2.2.2.2.2.2.2.2.1 = nI 2, _ := fun h2 => RV.src2 h h2
  have hn : B.2.2.2.2.2 = lN t := hB.1
  have ht' : D.1 = nI t := hB.2.1
  generalize hst : G.2.2.2.2.2.2.2.2.2.1 = st at *
  generalize hou : G.2.2.2.2.2.1 = ou at *
  obtain ⟨ph, re, tg, gp, si, se, nx, du⟩ := ou
  obtain ⟨h1, h2, h3, h4, h5, h6, h7, h8⟩ := hr
  have hph : ph = nI 2 ∨ ph = nI 3 := hph
  have h8' : st = nI 2 ∧ D.2.2.2.1 15 f = nx ∧ tm t du (D.2.2.2.1 16 f) ∧ ROK ph tg gp si nx := by
    rcases h8 with ⟨q, -⟩ | q
    · rw [q] at hph
      rcases hph with z | z <;> exact absurd z (by decide)
    · exact q
  obtain ⟨hst2, h15, -, hg, hz, hq⟩ := h8'
  have hq' : ∃ b, b ≤ 253 ∧ tg = nI b := by
    rcases hq with ⟨q, -⟩ | ⟨-, q⟩
    · rw [q] at hph
      rcases hph with z | z <;> exact absurd z (by decide)
    · exact q
  obtain ⟨b, hb, eb⟩ := hq'
  subst hst2
  obtain ⟨a0, ha0, ea, hsr, -⟩ := hsr0 rfl
  rw [ea, grd_eq]
  have hB1 := hB.mod (bw_grd1 (f := f) (c := c))
  have hsr1 : pm_src (pm_grd1 D f c).2.2.2.1 f = nI a0 := by
    rw [← hsr]
    unfold pm_src
    rw [rd_grd1 (by decide) (by decide), rd_grd1 (by decide) (by decide)]
  by_cases hc0 : c = 0
  · subst hc0
    have e0 : pm_grantN a 0 s = 0 := by unfold pm_grantN; omega
    have e : pc_takeGrant B (nI f) (nI a0) (ph, re, tg, gp, si, se, nx, du) 0 a s = (B, (nI 3, re, tg, gp, si, se, nx, B.2.2.2.2.2 + lN 1050)) := by
      unfold pc_takeGrant
      simp only
      rw [if_pos trivial]
    rw [e0, e]
    refine ⟨hB1, fr_grd1, ?_⟩
    show RV t _ (vw (pm_grd1 D f 0) f)
    rw [vw_grd1]
    refine RV.ou h ?_
    rw [hst]
    refine ⟨rfl, h2, h3, h4, h5, h6, h7, Or.inr ⟨rfl, h15, ⟨t + 1050, by omega, by omega, by rw [hn, lN_add], ?_⟩, hg, hz, Or.inr ⟨Or.inr rfl, b, hb, eb⟩⟩⟩
    rw [if_pos rfl, ht', nI_add]
  · have hl : a + pm_grantN a c s ≤ 256 := by unfold pm_grantN; omega
    have h0 := sim_sends (t := t) (f := f) (a := a0) (g := b) (ou := (ph, re, tg, gp, si, se, nx, du)) hf (by omega) (by omega) eb (pm_grantN a c s) a B (pm_grd1 D f c) hl hB1 hsr1 (by rw [rd_grd1 (by decide) (by decide)]; exact h3) (by rw [rd_grd1 (by decide) (by decide)]; exact h5) (by rw [rdJ_grd1]; exact h6)
    have e : pc_takeGrant B (nI f) (nI a0) (ph, re, tg, gp, si, se, nx, du) c a s = (pc_sends (nI f) (nI a0) (ph, re, tg, gp, si, se, nx, du) (pm_grantN a c s) a B, (nI 2, re, tg, gp, si, se, nx, B.2.2.2.2.2 + lN 1250)) := by
      unfold pc_takeGrant
      simp only
      rw [if_neg hc0, grN (by omega), pc_sends_now]
    rw [e]
    refine ⟨h0.1, fr_grd1.tr h0.2.1, ?_⟩
    rw [h0.2.2, vw_grd1]
    refine RV.ou h ?_
    rw [hst]
    refine ⟨if_neg hc0, h2, h3, h4, h5, h6, h7, Or.inr ⟨rfl, h15, ⟨t + 1250, by omega, by omega, by rw [hn, lN_add], ?_⟩, hg, hz, Or.inr ⟨Or.inl rfl, b, hb, eb⟩⟩⟩
    rw [if_neg hc0, ht', nI_add]
