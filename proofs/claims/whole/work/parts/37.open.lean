/-! A message opens. -/
def vn (n : Int32) (V : zV) : zV := (V.1, V.2.1, V.2.2.1, n, V.2.2.2.2.1, V.2.2.2.2.2.1, V.2.2.2.2.2.2)
def pm_opn1 (D : zMd) (f c : Nat) (src si gr al : Int32) : zMd := match D with
  | (t, fr, lo, I, J) => (t, fr, lo, up2 (up2 (up2 (up2 (up2 (up2 (up2 (up2 (up2 I 17 f (nI c + nI 1)) 18 (2 * f + c) (vp_nar .boolean al)) 19 (2 * f + c) src) 20 (2 * f + c) gr) 21 (2 * f + c) si) 22 (2 * f + c) (nI 1)) 24 (2 * f + c) (nI 0)) 25 (2 * f + c) (vp_nar .boolean (nI 0))) 26 (2 * f + c) (t + nI 750), J)
theorem opn_eq {D : zMd} {f c : Nat} {src si gr al : Int32} : pm_opn D f c src si gr al = if al = 0 then pm_grant (pm_opn1 D f c src si gr al) f (2 * f + c) else pm_opn1 D f c src si gr al := by
  obtain ⟨t, fr, lo, I, J⟩ := D
  rfl
def sopn (t src si gr al : Int32) (s : zSl) : zSl := match s with
  | (_, _, _, _, _, sl, _, _, _, sb) => (vp_nar .boolean al, src, gr, si, nI 1, sl, nI 0, vp_nar .boolean (nI 0), t + nI 750, sb)
theorem vw_opn1 {D : zMd} {f c : Nat} {src si gr al : Int32} (hc : c < 2) : vw (pm_opn1 D f c src si gr al) f = vset c (sopn D.1 src si gr al (slv D.2.2.2.1 (2 * f + c))) (vn (nI c + nI 1) (vw D f)) := by
  obtain ⟨t, fr, lo, I, J⟩ := D
  rcases (show c = 0 ∨ c = 1 by omega) with rfl | rfl
  · simp [vw, vwI, slv, up2_r, vset, sopn, vn, pm_opn1]
  · simp [vw, vwI, slv, up2_r, vset, sopn, vn, pm_opn1]
theorem slv_opn1 {D : zMd} {f c : Nat} {src si gr al : Int32} (hc : c < 2) : slv (pm_opn1 D f c src si gr al).2.2.2.1 (2 * f + c) = sopn D.1 src si gr al (slv D.2.2.2.1 (2 * f + c)) := by
  rw [← vw_slot (D := pm_opn1 D f c src si gr al) hc, vw_opn1 hc]
  unfold vslot vset
  rcases (show c = 0 ∨ c = 1 by omega) with rfl | rfl <;> rfl
theorem fr_opn1 {D : zMd} {f c : Nat} {src si gr al : Int32} (hc : c < 2) : Fr f D (pm_opn1 D f c src si gr al) := by
  obtain ⟨t, fr, lo, I, J⟩ := D
  have ho : ∀ a, 18 ≤ a → a ≤ 26 → own a (2 * f + c) = f := fun a h1 h2 => by rw [own_s h1 h2]; omega
  exact ⟨rfl, FrI.up (ho 26 (by decide) (by decide)) (FrI.up (ho 25 (by decide) (by decide)) (FrI.up (ho 24 (by decide) (by decide)) (FrI.up (ho 22 (by decide) (by decide)) (FrI.up (ho 21 (by decide) (by decide)) (FrI.up (ho 20 (by decide) (by decide)) (FrI.up (ho 19 (by decide) (by decide)) (FrI.up (ho 18 (by decide) (by decide)) (FrI.up rfl FrI.rf)))))))), FrJ.rf⟩
theorem bw_opn1 {D : zMd} {f c : Nat} {src si gr al : Int32} : bwE D (pm_opn1 D f c src si gr al) := by
  obtain ⟨t, fr, lo, I, J⟩ := D
  refine ⟨rfl, rfl, rfl, ?_, ?_, rfl⟩
  · simp (disch := decide) only [pm_opn1, up2_row]
  · simp (disch := decide) only [pm_opn1, up2_row]
theorem src_opn1 {D : zMd} {f c g : Nat} {src si gr al : Int32} : pm_src (pm_opn1 D f c src si gr al).2.2.2.1 g = pm_src D.2.2.2.1 g := by
  obtain ⟨t, fr, lo, I, J⟩ := D
  unfold pm_src pm_opn1
  simp [up2_r]
theorem bz_opn1 {D : zMd} {f c g : Nat} {src si gr al : Int32} : (pm_opn1 D f c src si gr al).2.2.2.1 3 g = D.2.2.2.1 3 g := by
  obtain ⟨t, fr, lo, I, J⟩ := D
  unfold pm_opn1
  simp [up2_r]
theorem grant_op {B : zB} {n a : Int32} {bz : Bool} {x : zIn} : (pc_grant B n a bz x).2.2.1 = x.2.1 := by
  obtain ⟨⟨pk, so, gr, si, ta⟩, op, he, ex, lt, ak, du⟩ := x
  unfold pc_grant
  simp only
  split <;> rfl
theorem nb_0 : vp_nar .boolean (zb false) = 0 := by decide +kernel
/-- a closed session x begins at the slot c -/
theorem sim_ibegin {t f a c z g a' : Nat} {B : zB} {D : zMd} {bz tb : Bool} {x : zIn} (hB : RB t B D) (hf : f < 5) (hsr : pm_src D.2.2.2.1 f = nI a) (ha : a ≤ 253) (hbz : D.2.2.2.1 3 f = zb bz) (hc : c < 2) (ha' : a' ≤ 253) (hg : g < 16777216) (hz1 : 9 ≤ z) (hz2 : z ≤ 49) : ∃ s', RB t (pc_ibegin B (nI f) (nI a) bz x (nI a') (nI g) (nI z) tb).1 (pm_opn D f c (nI a') (nI z) (nI g) (zb tb)) ∧ Fr f D (pm_opn D f c (nI a') (nI z) (nI g) (zb tb)) ∧ SS t (pc_ibegin B (nI f) (nI a) bz x (nI a') (nI g) (nI z) tb).2 s' ∧ (pc_ibegin B (nI f) (nI a) bz x (nI a') (nI g) (nI z) tb).2.1.2.1 = nI a' ∧ (pc_ibegin B (nI f) (nI a) bz x (nI a') (nI g) (nI z) tb).2.1.2.2.2.2 = tb ∧ (pc_ibegin B (nI f) (nI a) bz x (nI a') (nI g) (nI z) tb).2.2.2.2.1 ≤ 8 ∧ vw (pm_opn D f c (nI a') (nI z) (nI g) (zb tb)) f = vset c s' (vn (nI c + nI 1) (vw D f)) := by
  obtain ⟨⟨pk, so0, gr0, si0, ta0⟩, op, he, ex, lt, ak, du⟩ := x
  have hB1 := hB.mod (bw_opn1 (f := f) (c := c) (src := nI a') (si := nI z) (gr := nI g) (al := zb tb))
  have hf1 := fr_opn1 (D := D) (f := f) (c := c) (src := nI a') (si := nI z) (gr := nI g) (al := zb tb) hc
  have hv1 := vw_opn1 (D := D) (f := f) (c := c) (src := nI a') (si := nI z) (gr := nI g) (al := zb tb) hc
  have hs1 := slv_opn1 (D := D) (f := f) (c := c) (src := nI a') (si := nI z) (gr := nI g) (al := zb tb) hc
  have hn : B.2.2.2.2.2 = lN t := hB.1
  have ht' : D.1 = nI t := hB.2.1
  have h0 : ∀ du', SS0 ((pk, nI a', nI g, nI z, tb), true, he, 1, lt, nI 0, du') (sopn D.1 (nI a') (nI z) (nI g) (zb tb) (slv D.2.2.2.1 (2 * f + c))) := by
    intro du'
    refine ⟨rfl, nar_zb tb, rfl, rfl, rfl, rfl, rfl, ⟨a', ha', rfl⟩, ⟨g, hg, rfl⟩, ⟨z, hz1, hz2, rfl, Nat.le_refl _, by omega⟩, fun i hi _ => absurd hi (by omega)⟩
  rw [opn_eq]
  cases tb with
  | true =>
    rw [if_neg (by decide)]
    have e : pc_ibegin B (nI f) (nI a) bz ((pk, so0, gr0, si0, ta0), op, he, ex, lt, ak, du) (nI a') (nI g) (nI z) true = (B, ((pk, nI a', nI g, nI z, true), true, he, 1, lt, nI 0, B.2.2.2.2.2 + lN 750)) := by
      unfold pc_ibegin
      simp only
      rw [if_pos trivial]
    rw [e]
    refine ⟨_, hB1, hf1, ⟨h0 _, fun z => (by cases z), t + 750, by omega, by omega, ?_, ?_⟩, rfl, rfl, (by decide : (1 : Nat) ≤ 8), hv1⟩
    · show B.2.2.2.2.2 + lN 750 = _
      rw [hn, lN_add]
    · show D.1 + nI 750 = _
      rw [ht', nI_add]
  | false =>
    rw [if_pos (by decide)]
    have e : pc_ibegin B (nI f) (nI a) bz ((pk, so0, gr0, si0, ta0), op, he, ex, lt, ak, du) (nI a') (nI g) (nI z) false = pc_grant B (nI f) (nI a) bz ((pk, nI a', nI g, nI z, false), true, he, 1, lt, nI 0, du) := by
      unfold pc_ibegin
      simp only
      rw [if_neg (by decide)]
    rw [e]
    have hgr := sim_grant (x := ((pk, nI a', nI g, nI z, false), true, he, 1, lt, nI 0, du)) hB1 hf (src_opn1.trans hsr) ha (bz_opn1.trans hbz) hc (by rw [hs1]; exact h0 du) rfl
    obtain ⟨q1, q2, q8, ⟨s', p1, p2, p3, p4⟩ | ⟨p1, -⟩⟩ := hgr
    · exact ⟨s', q1, hf1.tr q2, p1, p2, p3, q8, by rw [p4, hv1, vset_vset]⟩
    · rw [grant_op] at p1
      cases p1
theorem RV.cl0 {t f : Nat} {G : zG} {D : zMd} (h : RV t G (vw D f)) : (gses 0 G).2.2.2.1 ≤ 8 ∧ (gses 1 G).2.2.2.1 ≤ 8 := by
  obtain ⟨ad, bz, nt, o, la, ou, x0, x1, de, st, nm, hd⟩ := G
  exact ⟨h.2.2.2.2.2.2.2.1.2.2.2.2.2.2.1, h.2.2.2.2.2.2.2.1.2.2.2.2.2.2.2.1⟩
/-- there is room: the session opens behind what is open -/
theorem sim_pbegin {t f z g a' : Nat} {B : zB} {G : zG} {D : zMd} {tb : Bool} (hf : f < 5) (hB : RB t B D) (h : RV t G (vw D f)) (h2 : G.2.2.2.2.2.2.2.2.2.1 = nI 2) (ha' : a' ≤ 253) (hg : g < 16777216) (hz1 : 9 ≤ z) (hz2 : z ≤ 49) (n0 : ¬ pc_isFrom (gses 0 G) (nI a') tb = true) (n1 : ¬ pc_isFrom (gses 1 G) (nI a') tb = true) (hr : oc (gses 0 G) + oc (gses 1 G) < 2) : SIM t f D (pf_begin B (nI f) (pf_room G) (nI a') (nI g) (nI z) tb) (pm_opn D f (oc (gses 0 G) + oc (gses 1 G)) (nI a') (nI z) (nI g) (zb tb)) := by
  obtain ⟨a, ha, ea, hsr, -⟩ := RV.src2 h h2
  have hbz := RV.bz h
  obtain ⟨ad, bz, nt, o, la, ou, x0, x1, de, st, nm, hd⟩ := G
  have ea : ad = nI a := ea
  subst ea
  have h2 : st = nI 2 := h2
  have hbz : D.2.2.2.1 3 f = zb bz := hbz
  have n0 : ¬ pc_isFrom x0 (nI a') tb = true := n0
  have n1 : ¬ pc_isFrom x1 (nI a') tb = true := n1
  have hr : oc x0 + oc x1 < 2 := hr
  show SIM t f D _ (pm_opn D f (oc x0 + oc x1) (nI a') (nI z) (nI g) (zb tb))
  obtain ⟨s', q1, q2, q3, q4, q5, q6, q7⟩ := sim_ibegin (x := if x1.2.1 = true then x0 else x1) (tb := tb) hB hf hsr ha hbz hr ha' hg hz1 hz2
  have hq3 := q3.op
  generalize hV : vw D f = V at h q7
  obtain ⟨⟨v0, v1, w2, v3, v4⟩, N, O, n, s0, s1, L⟩ := V
  obtain ⟨a1, a2, a3, a4, a5, a6, a7, ⟨b1, b2, b3, b4, b5, b6, b7, b8, b9⟩, a9⟩ := h
  have nf : ∀ (x : zIn), ¬ pc_isFrom x (nI a') tb = true → x.2.1 = true → ¬ (x.1.2.1 = nI a' ∧ x.1.2.2.2.2 = tb) := by
    intro x hx ho z
    apply hx
    simp only [pc_isFrom, Bool.and_eq_true, decide_eq_true_eq]
    exact ⟨⟨ho, z.1⟩, z.2⟩
  by_cases g1 : x1.2.1 = true
  · have g0 : x0.2.1 = false := ts_nt (fun z => by rw [oc_1 z, oc_1 g1] at hr; omega)
    have hg0 : ¬ x0.2.1 = true := by rw [g0]; decide
    rw [if_pos g1] at q1 q3 q4 q5 q6 hq3
    have ek : oc x0 + oc x1 = 1 := by rw [oc_0 g0, oc_1 g1]
    rw [ek] at q1 q2 q7 ⊢
    have e : pf_begin B (nI f) (pf_room (nI a, bz, nt, o, la, ou, x0, x1, de, st, nm, hd)) (nI a') (nI g) (nI z) tb = ((pc_ibegin B (nI f) (nI a) bz x0 (nI a') (nI g) (nI z) tb).1, (nI a, bz, nt, 1 - o, la, ou, x1, (pc_ibegin B (nI f) (nI a) bz x0 (nI a') (nI g) (nI z) tb).2, de, st, nm, hd)) := by
      unfold pf_room
      simp only
      rw [if_pos g1]
      rfl
    rw [e]
    refine ⟨q1, q2, ?_⟩
    rw [q7]
    refine ⟨by omega, a2, a3, a4, a5, a6, a7, ⟨?_, fun _ => ?_, fun _ => ?_, fun z _ => ?_, b6, fun z => ?_, b8, q6, fun _ => h2⟩, a9⟩
    · show nI 1 + nI 1 = _
      rw [oc_1 g1, oc_1 hq3, nI_add]
    · have := b3 g1
      rw [if_neg hg0] at this
      exact this
    · rw [if_pos g1]
      exact q3
    · rw [q4, q5]
      exact nf x1 n1 g1
    · rw [hq3] at z
      cases z
  · have hn1 : x1.2.1 = false := ts_nt g1
    rw [if_neg g1] at q1 q3 q4 q5 q6 hq3
    have ek : oc x0 + oc x1 = oc x0 := by rw [oc_0 hn1, Nat.add_zero]
    rw [ek] at q1 q2 q7 ⊢
    have e : pf_begin B (nI f) (pf_room (nI a, bz, nt, o, la, ou, x0, x1, de, st, nm, hd)) (nI a') (nI g) (nI z) tb = ((pc_ibegin B (nI f) (nI a) bz x1 (nI a') (nI g) (nI z) tb).1, (nI a, bz, nt, o, la, ou, x0, (pc_ibegin B (nI f) (nI a) bz x1 (nI a') (nI g) (nI z) tb).2, de, st, nm, hd)) := by
      unfold pf_room
      simp only
      rw [if_neg g1]
      rfl
    rw [e]
    refine ⟨q1, q2, ?_⟩
    rw [q7]
    refine ⟨a1, a2, a3, a4, a5, a6, a7, ⟨?_, fun z => ?_, fun _ => ?_, fun z _ => ?_, b5, fun z => ?_, b7, q6, fun _ => h2⟩, a9⟩
    · show nI (oc x0) + nI 1 = _
      rw [oc_1 hq3, nI_add]
    · have := b2 z
      rw [oc_1 z]
      exact this
    · by_cases g0 : x0.2.1 = true
      · rw [if_pos g0, oc_1 g0]
        exact q3
      · rw [if_neg g0, oc_0 (ts_nt g0)]
        exact q3
    · rw [q4, q5]
      exact nf x0 n0 z
    · rw [hq3] at z
      cases z
