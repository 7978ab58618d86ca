/-! A packet comes to a session. -/
def gL (la : zMs) (de : Int32) (G : zG) : zG := match G with
  | (ad, bz, nt, o, _, ou, x0, x1, _, st, nm, hd) => (ad, bz, nt, o, la, ou, x0, x1, de, st, nm, hd)
def PRES (t f c : Nat) (x : zIn) (la : zMs) (de : Int32) (D : zMd) (B' : zB) (x' : zIn) (la' : zMs) (de' : Int32) (D' : zMd) : Prop :=
  (SRES t f c x D B' x' D' ∧ la' = la ∧ de' = de) ∨ (RB t B' D' ∧ Fr f D D' ∧ x'.2.1 = false ∧ x'.2.2.2.2.2.2 = pc_NEVER ∧ x'.2.2.2.1 ≤ 8 ∧ de' = de + nI 1 ∧ ∃ s' L', vw D' f = vclose c (vset c s' (vL L' (vw D f))) ∧ L'.1 = (vw D f).2.2.2.2.2.2.1 + nI 1 ∧ RL L'.1 la' L')
theorem gL_self {G : zG} : gL G.2.2.2.2.1 G.2.2.2.2.2.2.2.2.1 G = G := by
  obtain ⟨ad, bz, nt, o, la, ou, x0, x1, de, st, nm, hd⟩ := G
  rfl
theorem RV.pres {t f r : Nat} {G : zG} {D D' : zMd} {B' : zB} {x' : zIn} {la' : zMs} {de' : Int32} (h : RV t G (vw D f)) (ho : (gses r G).2.1 = true) (hs : PRES t f (gpl r G) (gses r G) G.2.2.2.2.1 G.2.2.2.2.2.2.2.2.1 D B' x' la' de' D') : RB t B' D' ∧ Fr f D D' ∧ RV t (gL la' de' (gset r x' G)) (vw D' f) := by
  rcases hs with ⟨h1, rfl, rfl⟩ | ⟨h1, h2, h3, h4, h5, rfl, s', L', h6, h7, h8⟩
  · refine ⟨h1.1, h1.2.1, ?_⟩
    have := RV.res h ho h1
    obtain ⟨ad, bz, nt, o, la, ou, x0, x1, de, st, nm, hd⟩ := G
    exact this
  · refine ⟨h1, h2, ?_⟩
    rw [h6]
    have hV : RV t (gL la' (G.2.2.2.2.2.2.2.2.1 + nI 1) G) (vL L' (vw D f)) := by
      obtain ⟨ad, bz, nt, o, la, ou, x0, x1, de, st, nm, hd⟩ := G
      generalize vw D f = V at *
      obtain ⟨⟨v0, v1, w2, v3, v4⟩, N, O, n, s0, s1, L⟩ := V
      obtain ⟨a1, a2, a3, a4, a5, a6, a7, a8, a9⟩ := h
      refine ⟨a1, a2, a3, a4, a5, a6, a7, a8, ?_⟩
      have e : L.1 = de := by
        obtain ⟨pk, so, gr, si, ta⟩ := la
        obtain ⟨ar, l0, l1, l2, l3, lb⟩ := L
        exact a9.1
      have h7 : L'.1 = L.1 + nI 1 := h7
      rw [e] at h7
      show RL (de + nI 1) la' L'
      rw [← h7]
      exact h8
    have e1 : gses r (gL la' (G.2.2.2.2.2.2.2.2.1 + nI 1) G) = gses r G := by
      obtain ⟨ad, bz, nt, o, la, ou, x0, x1, de, st, nm, hd⟩ := G
      rfl
    have e2 : gpl r (gL la' (G.2.2.2.2.2.2.2.2.1 + nI 1) G) = gpl r G := by
      obtain ⟨ad, bz, nt, o, la, ou, x0, x1, de, st, nm, hd⟩ := G
      rfl
    have := RV.fin (s := s') hV (by rw [e1]; exact ho) h3 h4 h5
    rw [e2] at this
    obtain ⟨ad, bz, nt, o, la, ou, x0, x1, de, st, nm, hd⟩ := G
    exact this
theorem kb_n {pk : Nat → Int64} {sb : Nat → Int32} {ex : Nat} {d : Int64} (h1 : 1 ≤ ex) (hb : ∀ i, i < 7 * (ex - 1) → i < 49 → sb i = pc_fb (pk (i / 7)) (nI (i % 7 + 2))) : ∀ i, i < 7 * ex → i < 49 → (if i < 49 then (if 7 * ex - 7 ≤ i ∧ i < 7 * ex then pm_byte d (i - (7 * ex - 7)) else sb i) else 0) = pc_fb (vp_updL pk (ex - 1) d (i / 7)) (nI (i % 7 + 2)) := by
  intro i h2 h3
  rw [if_pos h3]
  by_cases h : 7 * ex - 7 ≤ i
  · rw [if_pos ⟨h, h2⟩, fb_by d (by omega)]
    have e : i / 7 = ex - 1 := by omega
    have e2 : i - (7 * ex - 7) + 2 = i % 7 + 2 := by omega
    rw [e2, e]
    simp [vp_updL]
  · rw [if_neg (by omega), hb i (by omega) h3]
    have e : ¬ i / 7 = ex - 1 := by omega
    simp [vp_updL, e]
theorem mkeep_n {pk : Nat → Int64} {so gr si : Int32} {ta : Bool} {ex : Nat} {d : Int64} (h1 : 1 ≤ ex) (h7 : ex ≤ 7) : pc_mkeep (pk, so, gr, si, ta) ex d = (vp_updL pk (ex - 1) d, so, gr, si, ta) := by
  unfold pc_mkeep
  simp only
  rw [if_pos ⟨h1, h7⟩]
theorem slv_put {D : zMd} {f s : Nat} {pr fm tg : Int32} {d : Int64} : slv (pm_put D f pr fm tg d).2.2.2.1 s = slv D.2.2.2.1 s := slv_eq (fun a h1 h2 => pm_put_I (by omega) (by omega) s) (fun i _ => pm_put_I (by decide) (by decide) _)
theorem slv_kept {D : zMd} {f c k : Nat} {d : Int64} (hc : c < 2) (h1 : 1 ≤ k) (h7 : k ≤ 7) : slv (pm_kept D (2 * f + c) k d).2.2.2.1 (2 * f + c) = skept k d (slv D.2.2.2.1 (2 * f + c)) := by
  rw [← vw_slot (D := pm_kept D (2 * f + c) k d) hc, vw_kept hc h1 h7]
  unfold vslot vset
  rcases (show c = 0 ∨ c = 1 by omega) with rfl | rfl <;> rfl
theorem vL_vset {c : Nat} {s : zSl} {L : zVl} {V : zV} : vL L (vset c s V) = vset c s (vL L V) := rfl
/-- the message is whole: it is the latest now, the session closes -/
theorem sim_whole {t f c : Nat} {B1 : zB} {D D1 : zMd} {x x' : zIn} {la la' : zMs} {de : Int32} {sK : zSl} (hc : c < 2) (hB : RB t B1 D1) (hfr : Fr f D D1) (hv : vw D1 f = vset c sK (vw D f)) (hs : slv D1.2.2.2.1 (2 * f + c) = sK) (h1 : x'.2.1 = false) (h2 : x'.2.2.2.2.2.2 = pc_NEVER) (h8 : x'.2.2.2.1 ≤ 8) (hL : ∀ q, RL q la' (q, sK.2.1, sK.2.2.1, sK.2.2.2.1, (if sK.1 = 0 then nI 0 else nI 1), sK.2.2.2.2.2.2.2.2.2)) : PRES t f c x la de D B1 x' la' (de + nI 1) (pm_whole D1 f (2 * f + c)) := by
  refine Or.inr ⟨?_, ?_, h1, h2, h8, rfl, sK, (D1.2.2.2.1 28 f + nI 1, sK.2.1, sK.2.2.1, sK.2.2.2.1, (if sK.1 = 0 then nI 0 else nI 1), sK.2.2.2.2.2.2.2.2.2), ?_, ?_, hL _⟩
  · rw [pm_whole_eq]
    exact (hB.mod bw_last).mod bw_close
  · rw [pm_whole_eq]
    exact (hfr.tr fr_last).tr (fr_close hc)
  · rw [pm_whole_eq, vw_close hc, vw_last]
    rw [show (fun i => if i < 49 then D1.2.2.2.1 27 (49 * (2 * f + c) + i) else 0) = (slv D1.2.2.2.1 (2 * f + c)).2.2.2.2.2.2.2.2.2 from rfl, show D1.2.2.2.1 19 (2 * f + c) = (slv D1.2.2.2.1 (2 * f + c)).2.1 from rfl, show D1.2.2.2.1 20 (2 * f + c) = (slv D1.2.2.2.1 (2 * f + c)).2.2.1 from rfl, show D1.2.2.2.1 21 (2 * f + c) = (slv D1.2.2.2.1 (2 * f + c)).2.2.2.1 from rfl, show D1.2.2.2.1 18 (2 * f + c) = (slv D1.2.2.2.1 (2 * f + c)).1 from rfl, hs, hv, vL_vset]
  · show (vw D1 f).2.2.2.2.2.2.1 + nI 1 = _
    rw [hv]
    rfl
section PK
variable {B B' : zB} {n a : Int32} {bz : Bool} {x x' : zIn} {la : zMs} {de src : Int32} {d : Int64}
theorem pkt_a1 (hm : pc_isFrom x src true = true) (hT : pc_takeAll B x d = (true, x')) : pf_pkt B n a bz x la de src true d = (B, x', pc_copy la x'.1, de + nI 1) := by
  unfold pf_pkt
  rw [if_pos hm, if_pos rfl, hT, if_pos rfl]
theorem pkt_a0 (hm : pc_isFrom x src true = true) (hT : pc_takeAll B x d = (false, x')) : pf_pkt B n a bz x la de src true d = (B, x', la, de) := by
  unfold pf_pkt
  rw [if_pos hm, if_pos rfl, hT, if_neg (fun z => by cases z)]
theorem pkt_d1 (hm : pc_isFrom x src false = true) (hT : pc_takeDir B n a bz x d = (true, B', x')) : pf_pkt B n a bz x la de src false d = (B', x', pc_copy la x'.1, de + nI 1) := by
  unfold pf_pkt
  rw [if_pos hm, if_neg (by decide), hT, if_pos rfl]
theorem pkt_d0 (hm : pc_isFrom x src false = true) (hT : pc_takeDir B n a bz x d = (false, B', x')) : pf_pkt B n a bz x la de src false d = (B', x', la, de) := by
  unfold pf_pkt
  rw [if_pos hm, if_neg (by decide), hT, if_neg (fun z => by cases z)]
end PK
set_option maxRecDepth 100000 in
set_option maxHeartbeats 1000000 in
theorem sim_pkt {t f a c : Nat} {B : zB} {D : zMd} {bz : Bool} {x : zIn} {la : zMs} {de src : Int32} {ta : Bool} {d : Int64} (hB : RB t B D) (hf : f < 5) (hsr : pm_src D.2.2.2.1 f = nI a) (ha : a ≤ 253) (hbz : D.2.2.2.1 3 f = zb bz) (hc : c < 2) (hS : SS t x (slv D.2.2.2.1 (2 * f + c))) (hm : pc_isFrom x src ta = true) : PRES t f c x la de D (pf_pkt B (nI f) (nI a) bz x la de src ta d).1 (pf_pkt B (nI f) (nI a) bz x la de src ta d).2.1 (pf_pkt B (nI f) (nI a) bz x la de src ta d).2.2.1 (pf_pkt B (nI f) (nI a) bz x la de src ta d).2.2.2 (pm_pktS D f (2 * f + c) d) := by
  have h8 := SS.ex (t := t) hS.1
  have hS1 := hS
  have hself : ∀ q : Prop, q → SRES t f c x D B x D := fun _ _ => ⟨hB, Fr.rf, h8, Or.inl ⟨vslot c (vw D f), by rw [vw_slot hc]; exact hS1, rfl, rfl, vset_self.symm⟩⟩
  obtain ⟨w, hw, ew⟩ := fb_lt d (k := 1) (by decide) (by decide)
  have ew2 : pm_fbk d = nI w := (fb_1 d).trans ew
  obtain ⟨⟨pk, so, gr, si, ta'⟩, op, he, ex, lt, ak, du⟩ := x
  have hta : ta' = ta := by
    simp only [pc_isFrom, Bool.and_eq_true, decide_eq_true_eq] at hm
    exact hm.2
  subst hta
  obtain ⟨t', fr, lo, I, J⟩ := D
  obtain ⟨⟨h1, h2, h3, h4, h5, h6, h7, ⟨a', ha', e1⟩, ⟨g, hg, e2⟩, ⟨z, hz1, hz2, e3, hx1, hx2⟩, hby⟩, hwin, htm⟩ := hS
  have h2 : I 18 (2 * f + c) = zb ta' := h2
  have h3 : I 19 (2 * f + c) = so := h3
  have h4 : I 20 (2 * f + c) = gr := h4
  have h5 : I 21 (2 * f + c) = si := h5
  have h6 : I 22 (2 * f + c) = nI ex := h6
  have h7 : I 24 (2 * f + c) = ak := h7
  have h1 : op = true := h1
  subst h1 e1 e2 e3
  have hn : B.2.2.2.2.2 = lN t := hB.1
  have ht' : t' = nI t := hB.2.1
  have hx7 : ex ≤ 7 := by omega
  have hKe : pc_keepEx ((pk, nI a', nI g, nI z, ta'), true, he, ex, lt, ak, du) d = ((vp_updL pk (ex - 1) d, nI a', nI g, nI z, ta'), true, he, ex + 1, lt, ak, du) := by
    unfold pc_keepEx
    simp only
    rw [mkeep_n hx1 hx7]
  have hWh : pc_isWhole ((vp_updL pk (ex - 1) d, nI a', nI g, nI z, ta'), true, he, ex + 1, lt, ak, du) = decide ((z + 6) / 7 ≤ ex) := by
    show (!decide (nI (ex + 1) ≤ pc_pk (nI z))) = _
    rw [(pk_n z (by omega)).1]
    by_cases q : (z + 6) / 7 ≤ ex
    · rw [decide_eq_true q, decide_eq_false (nI_ge (by omega) (by omega))]
      rfl
    · rw [decide_eq_false q, decide_eq_true (nI_le (by omega) (by omega))]
      rfl
  have hPk : (pm_pk (I 21 (2 * f + c)) ≤ nI ex) ↔ (z + 6) / 7 ≤ ex := by
    rw [h5, (pk_n z (by omega)).2]
    exact nI_leI (by omega) (by omega)
  have hsK := slv_kept (D := (t', fr, lo, I, J)) (f := f) (c := c) (k := ex) (d := d) hc hx1 hx7
  have hvK := vw_kept (D := (t', fr, lo, I, J)) (f := f) (c := c) (k := ex) (d := d) hc hx1 hx7
  have hfK := fr_kept (D := (t', fr, lo, I, J)) (f := f) (c := c) (k := ex) (d := d) hc hx1 hx7
  have hbK : RB t B (pm_kept (t', fr, lo, I, J) (2 * f + c) ex d) := hB.mod bw_kept
  have hkb := kb_n (d := d) hx1 hby
  have hRL : ∀ (q : Int32), (z + 6) / 7 ≤ ex → RL q (pc_copy la (vp_updL pk (ex - 1) d, nI a', nI g, nI z, ta')) (q, (skept ex d (slv I (2 * f + c))).2.1, (skept ex d (slv I (2 * f + c))).2.2.1, (skept ex d (slv I (2 * f + c))).2.2.2.1, (if (skept ex d (slv I (2 * f + c))).1 = 0 then nI 0 else nI 1), (skept ex d (slv I (2 * f + c))).2.2.2.2.2.2.2.2.2) := by
    intro q hwh
    refine ⟨rfl, ⟨z, hz2, h5⟩, fun _ => ⟨h3, h4, h5, ?_, fun i hi hiz => ?_⟩⟩
    · show (if I 18 (2 * f + c) = 0 then nI 0 else nI 1) = zb ta'
      rw [h2]
      cases ta' <;> rfl
    · have hiz : i < z := (nI_ltI (by omega) (by omega)).mp hiz
      show (if i < 49 then _ else 0) = pc_fb (pc_over la.1 (vp_updL pk (ex - 1) d) 7 (i / 7)) (nI (i % 7 + 2))
      have e7 : pc_over la.1 (vp_updL pk (ex - 1) d) 7 (i / 7) = vp_updL pk (ex - 1) d (i / 7) := by
        unfold pc_over
        rw [if_pos (by omega)]
      rw [e7]
      exact hkb i (by omega) hi
  have hS0K : ¬ (z + 6) / 7 ≤ ex → SS0 ((vp_updL pk (ex - 1) d, nI a', nI g, nI z, ta'), true, he, ex + 1, lt, ak, du) (skept ex d (slv I (2 * f + c))) := by
    intro q
    refine ⟨rfl, h2, h3, h4, h5, ?_, h7, ⟨a', ha', rfl⟩, ⟨g, hg, rfl⟩, ⟨z, hz1, hz2, rfl, by omega, by omega⟩, fun i hi h49 => hkb i (by omega) h49⟩
    show I 22 (2 * f + c) + nI 1 = nI (ex + 1)
    rw [h6, nI_add]
  have hdue : ¬ (z + 6) / 7 ≤ ex → SRES t f c ((pk, nI a', nI g, nI z, ta'), true, he, ex, lt, ak, du) (t', fr, lo, I, J) B (pc_setDue ((vp_updL pk (ex - 1) d, nI a', nI g, nI z, ta'), true, he, ex + 1, lt, ak, du) (B.2.2.2.2.2 + lN 750)) (pm_setDue (pm_kept (t', fr, lo, I, J) (2 * f + c) ex d) (2 * f + c)) := by
    intro q
    refine ⟨hbK.mod bw_setDue, hfK.tr (fr_setDue hc), ?_, Or.inl ⟨_, ?_, rfl, rfl, (vw_setDue hc).trans (by rw [hvK, vset_vset])⟩⟩
    · show ex + 1 ≤ 8
      omega
    · rw [hsK]
      refine ⟨hS0K q, hwin, t + 750, by omega, by omega, ?_, ?_⟩
      · show B.2.2.2.2.2 + lN 750 = _
        rw [hn, lN_add]
      · show t' + nI 750 = _
        rw [ht', nI_add]
  cases ta' with
  | true =>
    have h18 : ¬ I 18 (2 * f + c) = 0 := by rw [h2]; decide
    by_cases q : w = ex
    · subst q
      have eD : pm_pktS (t', fr, lo, I, J) f (2 * f + c) d = pm_keep (t', fr, lo, I, J) f (2 * f + c) w d := by
        unfold pm_pktS
        simp only
        rw [ew2, h6, if_pos ⟨rfl, Or.inl h18⟩, nI_clamp (by omega)]
      have eT : pc_takeAll B ((pk, nI a', nI g, nI z, true), true, he, w, lt, ak, du) d = if decide ((z + 6) / 7 ≤ w) = true then (true, pc_iend ((vp_updL pk (w - 1) d, nI a', nI g, nI z, true), true, he, w + 1, lt, ak, du)) else (false, pc_setDue ((vp_updL pk (w - 1) d, nI a', nI g, nI z, true), true, he, w + 1, lt, ak, du) (B.2.2.2.2.2 + lN 750)) := by
        unfold pc_takeAll
        rw [ew, if_pos rfl, hKe, hWh]
      by_cases hwh : (z + 6) / 7 ≤ w
      · rw [decide_eq_true hwh, if_pos rfl] at eT
        have eK : pm_keep (t', fr, lo, I, J) f (2 * f + c) w d = pm_whole (pm_kept (t', fr, lo, I, J) (2 * f + c) w d) f (2 * f + c) := by
          unfold pm_keep
          simp only
          rw [if_pos (hPk.mpr hwh), if_neg h18]
        rw [pkt_a1 hm eT, eD, eK]
        exact sim_whole (x' := pc_iend ((vp_updL pk (w - 1) d, nI a', nI g, nI z, true), true, he, w + 1, lt, ak, du)) hc hbK hfK hvK hsK rfl rfl (show w + 1 ≤ 8 by omega) (fun q => hRL q hwh)
      · rw [decide_eq_false hwh, if_neg (by decide)] at eT
        have eK : pm_keep (t', fr, lo, I, J) f (2 * f + c) w d = pm_setDue (pm_kept (t', fr, lo, I, J) (2 * f + c) w d) (2 * f + c) := by
          unfold pm_keep
          simp only
          rw [if_neg (fun z => hwh (hPk.mp z)), if_neg (fun z => h18 z.1)]
        rw [pkt_a0 hm eT, eD, eK]
        exact Or.inl ⟨hdue hwh, rfl, rfl⟩
    · have q1 : ¬ nI w = nI ex := fun z => q ((nI_eq (by omega) (by omega)).mp z)
      have eD : pm_pktS (t', fr, lo, I, J) f (2 * f + c) d = if nI w ≤ nI ex then (t', fr, lo, I, J) else pm_close (t', fr, lo, I, J) f (2 * f + c) := by
        unfold pm_pktS
        simp only
        rw [ew2, h6, if_neg (fun z => q1 z.1), if_neg h18]
      have eT : pc_takeAll B ((pk, nI a', nI g, nI z, true), true, he, ex, lt, ak, du) d = if nI w ≤ nI ex then (false, ((pk, nI a', nI g, nI z, true), true, he, ex, lt, ak, du)) else (false, pc_iend ((pk, nI a', nI g, nI z, true), true, he, ex, lt, ak, du)) := by
        unfold pc_takeAll
        rw [ew, if_neg q1]
      by_cases q2 : nI w ≤ nI ex
      · rw [if_pos q2] at eT eD
        rw [pkt_a0 hm eT, eD]
        exact Or.inl ⟨hself True trivial, rfl, rfl⟩
      · rw [if_neg q2] at eT eD
        rw [pkt_a0 hm eT, eD]
        exact Or.inl ⟨sim_end hB hc h8, rfl, rfl⟩
  | false =>
    have h18 : I 18 (2 * f + c) = 0 := by rw [h2]; decide
    have h23 : I 23 (2 * f + c) = lt := (hwin rfl).1
    by_cases q : nI w = nI ex ∧ nI w ≤ lt
    · have q0 : w = ex := (nI_eq (by omega) (by omega)).mp q.1
      subst q0
      have eD : pm_pktS (t', fr, lo, I, J) f (2 * f + c) d = pm_keep (t', fr, lo, I, J) f (2 * f + c) w d := by
        unfold pm_pktS
        simp only
        rw [ew2, h6, h23, if_pos ⟨rfl, Or.inr (Int32.not_lt.mpr q.2)⟩, nI_clamp (by omega)]
      have eT : pc_takeDir B (nI f) (nI a) bz ((pk, nI a', nI g, nI z, false), true, he, w, lt, ak, du) d = if decide ((z + 6) / 7 ≤ w) = true then (true, pc_put B (nI f) (nI a) (nI 485228544) (nI a') (pc_ext (nI 19) (nI z) (nI g)), pc_iend ((vp_updL pk (w - 1) d, nI a', nI g, nI z, false), true, he, w + 1, lt, ak, du)) else if nI (w + 1) ≤ lt then (false, B, pc_setDue ((vp_updL pk (w - 1) d, nI a', nI g, nI z, false), true, he, w + 1, lt, ak, du) (B.2.2.2.2.2 + lN 750)) else (false, pc_grant B (nI f) (nI a) bz ((vp_updL pk (w - 1) d, nI a', nI g, nI z, false), true, he, w + 1, lt, ak, du)) := by
        unfold pc_takeDir pc_takeDv
        rw [ew, if_pos q, hKe, hWh]
      by_cases hwh : (z + 6) / 7 ≤ w
      · rw [decide_eq_true hwh, if_pos rfl] at eT
        have eK : pm_keep (t', fr, lo, I, J) f (2 * f + c) w d = pm_whole (pm_putC (pm_kept (t', fr, lo, I, J) (2 * f + c) w d) f (nI a') (nI 19) (nI z &&& nI 255) (nI z >>> (nI 8 &&& 31)) (pm_pk (nI z)) (nI g)) f (2 * f + c) := by
          unfold pm_keep
          simp only
          rw [if_pos (hPk.mpr hwh), if_pos h18, h3, h4, h5]
        rw [pkt_d1 hm eT, eD, eK]
        have hsrK : pm_src (pm_kept (t', fr, lo, I, J) (2 * f + c) w d).2.2.2.1 f = nI a := src_kept.trans hsr
        have hp := sim_ext (k := 19) (z := z) hbK hf hsrK ha (show a' ≤ 255 by omega) (by decide) hz2 hg (Or.inr ⟨ha', Or.inr (Or.inr (Or.inl (ct_1 (by decide) (by omega) (by decide) (by omega) hg)))⟩)
        exact sim_whole (D := (t', fr, lo, I, J)) (x' := pc_iend ((vp_updL pk (w - 1) d, nI a', nI g, nI z, false), true, he, w + 1, lt, ak, du)) hc hp (hfK.tr fr_put) (vw_put.trans hvK) (slv_put.trans hsK) rfl rfl (show w + 1 ≤ 8 by omega) (fun q => hRL q hwh)
      · rw [decide_eq_false hwh, if_neg (by decide)] at eT
        have eK : pm_keep (t', fr, lo, I, J) f (2 * f + c) w d = if I 18 (2 * f + c) = 0 ∧ nI w = I 23 (2 * f + c) then pm_grant (pm_kept (t', fr, lo, I, J) (2 * f + c) w d) f (2 * f + c) else pm_setDue (pm_kept (t', fr, lo, I, J) (2 * f + c) w d) (2 * f + c) := by
          unfold pm_keep
          simp only
          rw [if_neg (fun z => hwh (hPk.mp z))]
        by_cases q3 : nI (w + 1) ≤ lt
        · have q4 : ¬ nI w = lt := fun z => absurd q3 (by rw [← z]; exact nI_ge (by omega) (by omega))
          rw [if_pos q3] at eT
          rw [if_neg (fun z => q4 (z.2.trans h23))] at eK
          rw [pkt_d0 hm eT, eD, eK]
          exact Or.inl ⟨hdue hwh, rfl, rfl⟩
        · have q4 : nI w = lt := by
            have p1 := q.2
            rw [Int32.le_iff_toInt_le, nI_toInt (by omega)] at p1 q3
            apply Int32.toInt_inj.mp
            rw [nI_toInt (by omega)]
            omega
          rw [if_neg q3] at eT
          rw [if_pos ⟨h18, q4.trans h23.symm⟩] at eK
          rw [pkt_d0 hm eT, eD, eK]
          refine Or.inl ⟨?_, rfl, rfl⟩
          have hbzK : (pm_kept (t', fr, lo, I, J) (2 * f + c) w d).2.2.2.1 3 f = zb bz := by
            rw [← hbz]
            unfold pm_kept
            simp (disch := decide) [up2_r, kpB_r]
          exact SRES.pre (sim_grant (x := ((vp_updL pk (w - 1) d, nI a', nI g, nI z, false), true, he, w + 1, lt, ak, du)) hbK hf (src_kept.trans hsr) ha hbzK hc (by rw [hsK]; exact hS0K hwh) rfl) hfK ⟨_, hvK⟩ rfl rfl
    · have q1 : ¬ (nI w = nI ex ∧ (¬ I 18 (2 * f + c) = 0 ∨ ¬ lt < nI w)) := by
        rintro ⟨p1, p2⟩
        rcases p2 with p2 | p2
        · exact p2 h18
        · exact q ⟨p1, Int32.not_lt.mp p2⟩
      have eD : pm_pktS (t', fr, lo, I, J) f (2 * f + c) d = if nI w = lt ∧ ¬ nI w ≤ nI ex then pm_ask (t', fr, lo, I, J) f (2 * f + c) (nI 5) else (t', fr, lo, I, J) := by
        unfold pm_pktS
        simp only
        rw [ew2, h6, h23, if_neg q1, if_pos h18]
      have eT : pc_takeDir B (nI f) (nI a) bz ((pk, nI a', nI g, nI z, false), true, he, ex, lt, ak, du) d = if nI w = lt ∧ ¬ nI w ≤ nI ex then (false, pc_askAgain B (nI f) (nI a) bz ((pk, nI a', nI g, nI z, false), true, he, ex, lt, ak, du) (nI 5)) else (false, B, ((pk, nI a', nI g, nI z, false), true, he, ex, lt, ak, du)) := by
        unfold pc_takeDir pc_takeDv
        rw [ew, if_neg q]
      by_cases q2 : nI w = lt ∧ ¬ nI w ≤ nI ex
      · rw [if_pos q2] at eT eD
        rw [pkt_d0 hm eT, eD]
        exact Or.inl ⟨sim_ask hB hf hsr ha hbz hc (by decide) hS1.1 rfl, rfl, rfl⟩
      · rw [if_neg q2] at eT eD
        rw [pkt_d0 hm eT, eD]
        exact Or.inl ⟨hself True trivial, rfl, rfl⟩
