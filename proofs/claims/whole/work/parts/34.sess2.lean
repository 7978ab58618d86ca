/-! Asking again, a session's timer, a packet for a session. -/
theorem vset_vset {c : Nat} {s s' : zSl} {V : zV} : vset c s (vset c s' V) = vset c s V := by
  unfold vset
  by_cases h : c = 0
  · simp [h]
  · simp [h]
theorem SRES.pre {t f c : Nat} {x x1 : zIn} {D D1 : zMd} {B' : zB} {x' : zIn} {D' : zMd} (h : SRES t f c x1 D1 B' x' D') (hfr : Fr f D D1) (hv : ∃ s, vw D1 f = vset c s (vw D f)) (e1 : x1.1.2.1 = x.1.2.1) (e2 : x1.1.2.2.2.2 = x.1.2.2.2.2) : SRES t f c x D B' x' D' := by
  obtain ⟨s, hv⟩ := hv
  obtain ⟨h1, h2, h8, ⟨s', q1, q2, q3, q4⟩ | ⟨q1, q2, s', q3⟩⟩ := h
  · exact ⟨h1, hfr.tr h2, h8, Or.inl ⟨s', q1, q2.trans e1, q3.trans e2, by rw [q4, hv, vset_vset]⟩⟩
  · exact ⟨h1, hfr.tr h2, h8, Or.inr ⟨q1, q2, s', by rw [q3, hv, vset_vset]⟩⟩
theorem sim_ask {t f a c r : Nat} {B : zB} {D : zMd} {bz : Bool} {x : zIn} (hB : RB t B D) (hf : f < 5) (hsr : pm_src D.2.2.2.1 f = nI a) (ha : a ≤ 253) (hbz : D.2.2.2.1 3 f = zb bz) (hc : c < 2) (hr : r < 256) (hS : SS0 x (slv D.2.2.2.1 (2 * f + c))) (hta : x.1.2.2.2.2 = false) : SRES t f c x D (pc_askAgain B (nI f) (nI a) bz x (nI r)).1 (pc_askAgain B (nI f) (nI a) bz x (nI r)).2 (pm_ask D f (2 * f + c) (nI r)) := by
  obtain ⟨⟨pk, so, gr, si, ta⟩, op, he, ex, lt, ak, du⟩ := x
  obtain ⟨t', fr, lo, I, J⟩ := D
  have hS0 := hS
  obtain ⟨h1, h2, h3, h4, h5, h6, h7, ⟨a', ha', e1⟩, ⟨g, hg, e2⟩, ⟨z, hz1, hz2, e3, hx1, hx2⟩, hby⟩ := hS
  have h3 : I 19 (2 * f + c) = so := h3
  have h4 : I 20 (2 * f + c) = gr := h4
  have h7 : I 24 (2 * f + c) = ak := h7
  have hfr := fr_ask1 (t := t') (fr := fr) (lo := lo) (v := ak + nI 1) (I := I) (J := J) (f := f) hc
  have hvw := vw_ask1 (t := t') (fr := fr) (lo := lo) (v := ak + nI 1) (I := I) (J := J) (f := f) hc (by rw [h7])
  have hbw : bwE (t', fr, lo, I, J) (t', fr, lo, up2 I 24 (2 * f + c) (ak + nI 1), J) := bw_up (by decide) (by decide)
  have hsl : slv (up2 I 24 (2 * f + c) (ak + nI 1)) (2 * f + c) = (I 18 (2 * f + c), I 19 (2 * f + c), I 20 (2 * f + c), I 21 (2 * f + c), I 22 (2 * f + c), I 23 (2 * f + c), ak + nI 1, I 25 (2 * f + c), I 26 (2 * f + c), fun i => if i < 49 then I 27 (49 * (2 * f + c) + i) else 0) := by
    simp [slv, up2_r]
  have hsr1 : pm_src (up2 I 24 (2 * f + c) (ak + nI 1)) f = nI a := by
    have hsr : pm_src I f = nI a := hsr
    rw [← hsr]
    unfold pm_src
    simp [up2_r]
  have hbz1 : up2 I 24 (2 * f + c) (ak + nI 1) 3 f = zb bz := by
    have hbz : I 3 f = zb bz := hbz
    rw [← hbz]
    simp [up2_r]
  unfold pc_askAgain pm_ask
  simp only
  rw [h7]
  by_cases hg3 : nI 3 ≤ ak + nI 1
  · rw [if_pos hg3, if_pos hg3]
    rw [h3, h4, e1, e2]
    have hp := sim_abt (RB.mod hB hbw) hf hsr1 ha ha' hr hg
    have hv2 : ∀ s', vw (pm_putA (t', fr, lo, up2 I 24 (2 * f + c) (ak + nI 1), J) f (nI a') (nI r) (nI g)) s' = vw (t', fr, lo, up2 I 24 (2 * f + c) (ak + nI 1), J) s' := fun s' => vw_put
    refine ⟨RB.mod hp bw_close, (hfr.tr fr_put).tr (fr_close hc), ?_, Or.inr ⟨rfl, rfl, vask (slv I (2 * f + c)), ?_⟩⟩
    · show ex ≤ 8
      omega
    · rw [vw_close hc, hv2, hvw]
  · rw [if_neg hg3, if_neg hg3]
    refine SRES.pre (x1 := ((pk, so, gr, si, ta), op, he, ex, lt, ak + nI 1, du)) (sim_grant (RB.mod hB hbw) hf hsr1 ha hbz1 hc ?_ hta) hfr ⟨_, hvw⟩ rfl rfl
    show SS0 _ (slv (up2 I 24 (2 * f + c) (ak + nI 1)) (2 * f + c))
    rw [hsl]
    exact ⟨h1, h2, h3, h4, h5, h6, rfl, ⟨a', ha', e1⟩, ⟨g, hg, e2⟩, ⟨z, hz1, hz2, e3, hx1, hx2⟩, hby⟩
theorem sim_end {t f c : Nat} {B : zB} {D : zMd} {x : zIn} (hB : RB t B D) (hc : c < 2) (h8 : x.2.2.2.1 ≤ 8) : SRES t f c x D B (pc_iend x) (pm_close D f (2 * f + c)) := by
  obtain ⟨⟨pk, so, gr, si, ta⟩, op, he, ex, lt, ak, du⟩ := x
  refine ⟨RB.mod hB bw_close, fr_close hc, h8, Or.inr ⟨rfl, rfl, vslot c (vw D f), ?_⟩⟩
  rw [vw_close hc, vset_self]
theorem SS.ex {t : Nat} {x : zIn} {s : zSl} (h : SS0 x s) : x.2.2.2.1 ≤ 8 := by
  obtain ⟨⟨pk, so, gr, si, ta⟩, op, he, ex, lt, ak, du⟩ := x
  obtain ⟨-, -, -, -, -, -, -, -, -, ⟨z, hz1, hz2, -, hx1, hx2⟩, -⟩ := h
  show ex ≤ 8
  omega
theorem sim_ioff {t f a c : Nat} {B : zB} {D : zMd} {bz : Bool} {x : zIn} (hB : RB t B D) (hf : f < 5) (hsr : pm_src D.2.2.2.1 f = nI a) (ha : a ≤ 253) (hbz : D.2.2.2.1 3 f = zb bz) (hc : c < 2) (hS : SS t x (slv D.2.2.2.1 (2 * f + c))) : SRES t f c x D (pc_igoOff B (nI f) (nI a) bz x).1 (pc_igoOff B (nI f) (nI a) bz x).2 (if D.2.2.2.1 18 (2 * f + c) = 0 then (if D.2.2.2.1 25 (2 * f + c) = 0 then pm_ask D f (2 * f + c) (nI 3) else pm_grant D f (2 * f + c)) else pm_close D f (2 * f + c)) := by
  have h8 := SS.ex (t := t) hS.1
  have h18 : D.2.2.2.1 18 (2 * f + c) = zb x.1.2.2.2.2 := by
    obtain ⟨⟨pk, so, gr, si, ta⟩, op, he, ex, lt, ak, du⟩ := x
    exact hS.1.2.1
  by_cases hta : x.1.2.2.2.2 = true
  · have e : pc_igoOff B (nI f) (nI a) bz x = (B, pc_iend x) := by
      unfold pc_igoOff
      rw [if_pos hta]
    have e18 : ¬ D.2.2.2.1 18 (2 * f + c) = 0 := by
      rw [h18, hta]
      decide
    rw [e, if_neg e18]
    exact sim_end hB hc h8
  · have hta' : x.1.2.2.2.2 = false := ts_nt hta
    have e18 : D.2.2.2.1 18 (2 * f + c) = 0 := by
      rw [h18, hta']
      decide
    rw [if_pos e18]
    have h25 : D.2.2.2.1 25 (2 * f + c) = zb x.2.2.1 := (hS.2.1 hta').2
    by_cases hhe : x.2.2.1 = true
    · have e : pc_igoOff B (nI f) (nI a) bz x = pc_grant B (nI f) (nI a) bz x := by
        unfold pc_igoOff
        rw [if_neg hta, if_pos hhe]
      have e25 : ¬ D.2.2.2.1 25 (2 * f + c) = 0 := by
        rw [h25, hhe]
        decide
      rw [e, if_neg e25]
      exact sim_grant hB hf hsr ha hbz hc hS.1 hta'
    · have e : pc_igoOff B (nI f) (nI a) bz x = pc_askAgain B (nI f) (nI a) bz x (nI 3) := by
        unfold pc_igoOff
        rw [if_neg hta, if_neg hhe]
      have e25 : D.2.2.2.1 25 (2 * f + c) = 0 := by
        rw [h25, ts_nt hhe]
        decide
      rw [e, if_pos e25]
      exact sim_ask hB hf hsr ha hbz hc (by decide) hS.1 hta'
/-! A packet -/
def skept (k : Nat) (d : Int64) (s : zSl) : zSl := match s with
  | (al, sf, sg, sz, se, sl, sa, sh, sd, sb) => (al, sf, sg, sz, se + nI 1, sl, sa, sh, sd, fun i => if i < 49 then (if 7 * k - 7 ≤ i ∧ i < 7 * k then pm_byte d (i - (7 * k - 7)) else sb i) else 0)
theorem kpB_s {I : Nat → Nat → Int32} {s k i : Nat} {d : Int64} {v : Int32} (h1 : 1 ≤ k) (hi : i < 49) : up2 (pm_kpB I s k d 7) 22 s v 27 (49 * s + i) = if 7 * k - 7 ≤ i ∧ i < 7 * k then pm_byte d (i - (7 * k - 7)) else I 27 (49 * s + i) := by
  rw [up2_r, if_neg (by decide), pm_kpB_r]
  by_cases h : 7 * k - 7 ≤ i ∧ i < 7 * k
  · rw [if_pos h, if_pos (by omega)]
    congr 1
    omega
  · rw [if_neg h, if_neg (by omega)]
theorem kpB_o {I : Nat → Nat → Int32} {s s' k i : Nat} {d : Int64} {v : Int32} (hs : s ≠ s') (h1 : 1 ≤ k) (h7 : k ≤ 7) (hi : i < 49) : up2 (pm_kpB I s k d 7) 22 s v 27 (49 * s' + i) = I 27 (49 * s' + i) := by
  rw [up2_r, if_neg (by decide), pm_kpB_r, if_neg (by omega)]
theorem kpB_r {I : Nat → Nat → Int32} {s k a j : Nat} {d : Int64} (ha : a ≠ 27) : pm_kpB I s k d 7 a j = I a j := by
  rw [pm_kpB_r, if_neg (by simp [ha])]
theorem vw_kept {D : zMd} {f c k : Nat} {d : Int64} (hc : c < 2) (h1 : 1 ≤ k) (h7 : k ≤ 7) : vw (pm_kept D (2 * f + c) k d) f = vset c (skept k d (slv D.2.2.2.1 (2 * f + c))) (vw D f) := by
  obtain ⟨t, fr, lo, I, J⟩ := D
  have hb : ∀ s v, (fun i => if i < 49 then up2 (pm_kpB I s k d 7) 22 s v 27 (49 * s + i) else 0) = (fun i => if i < 49 then (if 7 * k - 7 ≤ i ∧ i < 7 * k then pm_byte d (i - (7 * k - 7)) else (if i < 49 then I 27 (49 * s + i) else 0)) else 0) := by
    intro s v
    funext i
    by_cases hi : i < 49
    · rw [if_pos hi, if_pos hi, if_pos hi, kpB_s h1 hi]
    · rw [if_neg hi, if_neg hi]
  have ho : ∀ s s' v, s ≠ s' → (fun i => if i < 49 then up2 (pm_kpB I s k d 7) 22 s v 27 (49 * s' + i) else 0) = (fun i => if i < 49 then I 27 (49 * s' + i) else 0) := by
    intro s s' v hs
    funext i
    by_cases hi : i < 49
    · rw [if_pos hi, if_pos hi, kpB_o hs h1 h7 hi]
    · rw [if_neg hi, if_neg hi]
  unfold pm_kept
  rcases (show c = 0 ∨ c = 1 by omega) with rfl | rfl
  · simp only [vw, vwI, slv, Nat.add_zero, hb, ho (2 * f) (2 * f + 1) _ (by omega), vset, skept]
    simp (disch := decide) [up2_r, kpB_r]
  · simp only [vw, vwI, slv, hb, ho (2 * f + 1) (2 * f) _ (by omega), vset, skept]
    simp (disch := decide) [up2_r, kpB_r]
theorem fr_kept {D : zMd} {f c k : Nat} {d : Int64} (hc : c < 2) (h1 : 1 ≤ k) (h7 : k ≤ 7) : Fr f D (pm_kept D (2 * f + c) k d) := by
  obtain ⟨t, fr, lo, I, J⟩ := D
  refine ⟨rfl, FrI.up (by rw [own_s (by decide) (by decide)]; omega) ?_, FrJ.rf⟩
  intro a j h6 h8 hn
  rw [pm_kpB_r]
  by_cases h : a = 27 ∧ 49 * (2 * f + c) + 7 * k - 7 ≤ j ∧ j < 49 * (2 * f + c) + 7 * k - 7 + 7
  · obtain ⟨rfl, h3, h4⟩ := h
    exact absurd (show j / 98 = f by omega) hn
  · rw [if_neg h]
theorem bw_kept {D : zMd} {s k : Nat} {d : Int64} : bwE D (pm_kept D s k d) := by
  obtain ⟨t, fr, lo, I, J⟩ := D
  have hk : ∀ a, a ≠ 27 → pm_kpB I s k d 7 a = I a := fun a ha => by funext j; exact kpB_r ha
  refine ⟨rfl, rfl, rfl, ?_, ?_, rfl⟩
  · simp (disch := decide) only [pm_kept, up2_row, hk]
  · simp (disch := decide) only [pm_kept, up2_row, hk]
theorem src_kept {D : zMd} {s k f : Nat} {d : Int64} : pm_src (pm_kept D s k d).2.2.2.1 f = pm_src D.2.2.2.1 f := by
  obtain ⟨t, fr, lo, I, J⟩ := D
  unfold pm_src pm_kept
  simp (disch := decide) [up2_r, kpB_r]
def vL (L : zVl) (V : zV) : zV := (V.1, V.2.1, V.2.2.1, V.2.2.2.1, V.2.2.2.2.1, V.2.2.2.2.2.1, L)
def pm_last (D : zMd) (f s : Nat) : zMd := match D with
  | (t, fr, lo, I, J) => (t, fr, lo, pm_lsB (up2 (up2 (up2 (up2 (up2 I 28 f (I 28 f + nI 1)) 29 (4 * f) (I 19 s)) 29 (4 * f + 1) (I 20 s)) 29 (4 * f + 2) (I 21 s)) 29 (4 * f + 3) (if I 18 s = 0 then nI 0 else nI 1)) f s 49, J)
theorem pm_whole_eq {D : zMd} {f s : Nat} : pm_whole D f s = pm_close (pm_last D f s) f s := by
  obtain ⟨t, fr, lo, I, J⟩ := D
  rfl
theorem lsB_r {I : Nat → Nat → Int32} {f s a j : Nat} (ha : a ≠ 30) : pm_lsB I f s 49 a j = I a j := by
  unfold pm_lsB
  rw [if_neg (by simp [ha])]
theorem vw_last {D : zMd} {f s : Nat} : vw (pm_last D f s) f = vL (D.2.2.2.1 28 f + nI 1, D.2.2.2.1 19 s, D.2.2.2.1 20 s, D.2.2.2.1 21 s, (if D.2.2.2.1 18 s = 0 then nI 0 else nI 1), fun i => if i < 49 then D.2.2.2.1 27 (49 * s + i) else 0) (vw D f) := by
  obtain ⟨t, fr, lo, I, J⟩ := D
  have hb : ∀ I' : Nat → Nat → Int32, (∀ j, I' 27 j = I 27 j) → (fun i => if i < 49 then pm_lsB I' f s 49 30 (49 * f + i) else 0) = (fun i => if i < 49 then I 27 (49 * s + i) else 0) := by
    intro I' h
    funext i
    by_cases hi : i < 49
    · rw [if_pos hi, if_pos hi]
      unfold pm_lsB
      rw [if_pos (by omega), h]
      congr 1
      omega
    · rw [if_neg hi, if_neg hi]
  simp only [vw, vwI, slv, pm_last, vL]
  rw [hb _ (fun j => by simp [up2_r])]
  simp (disch := decide) [up2_r, lsB_r]
theorem fr_last {D : zMd} {f s : Nat} : Fr f D (pm_last D f s) := by
  obtain ⟨t, fr, lo, I, J⟩ := D
  have ho : ∀ k, k < 4 → own 29 (4 * f + k) = f := fun k hk => by show (4 * f + k) / 4 = f; omega
  have h1 : ∀ v0 v1 v2 v3 v4, FrI f I (up2 (up2 (up2 (up2 (up2 I 28 f v0) 29 (4 * f) v1) 29 (4 * f + 1) v2) 29 (4 * f + 2) v3) 29 (4 * f + 3) v4) := fun v0 v1 v2 v3 v4 => FrI.up (ho 3 (by decide)) (FrI.up (ho 2 (by decide)) (FrI.up (ho 1 (by decide)) (FrI.up (ho 0 (by decide)) (FrI.up rfl FrI.rf))))
  refine ⟨rfl, ?_, FrJ.rf⟩
  intro a j h6 h8 hn
  show pm_lsB _ f s 49 a j = I a j
  unfold pm_lsB
  by_cases h : a = 30 ∧ 49 * f ≤ j ∧ j < 49 * f + 49
  · obtain ⟨rfl, h3, h4⟩ := h
    exact absurd (show j / 49 = f by omega) hn
  · rw [if_neg h]
    exact h1 _ _ _ _ _ a j h6 h8 hn
theorem bw_last {D : zMd} {f s : Nat} : bwE D (pm_last D f s) := by
  obtain ⟨t, fr, lo, I, J⟩ := D
  have hk : ∀ (I' : Nat → Nat → Int32) a, a ≠ 30 → pm_lsB I' f s 49 a = I' a := fun I' a ha => by funext j; exact lsB_r ha
  refine ⟨rfl, rfl, rfl, ?_, ?_, rfl⟩
  · simp (disch := decide) only [pm_last, up2_row, hk]
  · simp (disch := decide) only [pm_last, up2_row, hk]
theorem vw_setDue {D : zMd} {f c : Nat} (hc : c < 2) : vw (pm_setDue D (2 * f + c)) f = vset c (match slv D.2.2.2.1 (2 * f + c) with | (al, sf, sg, sz, se, sl, sa, sh, _, sb) => (al, sf, sg, sz, se, sl, sa, sh, D.1 + nI 750, sb)) (vw D f) := by
  obtain ⟨t, fr, lo, I, J⟩ := D
  rcases (show c = 0 ∨ c = 1 by omega) with rfl | rfl
  · simp [vw, vwI, slv, up2_r, vset, pm_setDue]
  · simp [vw, vwI, slv, up2_r, vset, pm_setDue]
theorem fr_setDue {D : zMd} {f c : Nat} (hc : c < 2) : Fr f D (pm_setDue D (2 * f + c)) := by
  obtain ⟨t, fr, lo, I, J⟩ := D
  exact ⟨rfl, FrI.up (by rw [own_s (by decide) (by decide)]; omega) FrI.rf, FrJ.rf⟩
theorem bw_setDue {D : zMd} {s : Nat} : bwE D (pm_setDue D s) := by
  obtain ⟨t, fr, lo, I, J⟩ := D
  exact bw_up (by decide) (by decide)
