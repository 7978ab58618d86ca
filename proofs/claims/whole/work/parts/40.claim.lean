/-! Claims, starting, stopping. -/
theorem sim_cl {t f a : Nat} {B : zB} {D : zMd} {nm : Int64} (hB : RB t B D) (hf : f < 5) (hsr : pm_src D.2.2.2.1 f = nI a) (ha : a ≤ 254) (hn : D.2.2.2.2 2 f = nm) : RB t (pc_put B (nI f) (nI a) (nI 418250752) (nI 255) nm) (pm_putCl D f) := by
  unfold pm_putCl
  exact RB.put (pr := 6) (fm := 238) (tg := 255) hB hf rfl hsr ha rfl (by decide) (by decide) (by decide) hn.symm (Or.inl rfl)
theorem vw_cl {D : zMd} {f g : Nat} : vw (pm_putCl D f) g = vw D g := vw_put
theorem fr_cl {D : zMd} {f g : Nat} : Fr g D (pm_putCl D f) := fr_put
def gnote (G : zG) (s : Nat) (src : Int32) : zG := (G.1, G.2.1, upd G.2.2.1 s src, G.2.2.2)
def vnote (s : Nat) (src : Int32) (V : zV) : zV := (V.1, (fun k => if k = s then src else V.2.1 k), V.2.2)
def pm_note (D : zMd) (f s : Nat) (src : Int32) : zMd := match D with
  | (t, fr, lo, I, J) => (t, fr, lo, up2 I 5 (5 * f + s) src, J)
theorem vw_note {D : zMd} {f s : Nat} {src : Int32} (hs : s < 5) : vw (pm_note D f s src) f = vnote s src (vw D f) := by
  obtain ⟨t, fr, lo, I, J⟩ := D
  simp [vw, vwI, slv, up2_r, vnote, pm_note]
  funext k
  by_cases hk : k = s
  · subst hk
    simp [hs]
  · simp [hk]
theorem fr_note {D : zMd} {f s : Nat} {src : Int32} (hs : s < 5) : Fr f D (pm_note D f s src) := by
  obtain ⟨t, fr, lo, I, J⟩ := D
  exact ⟨rfl, FrI.up (show (5 * f + s) / 5 = f by omega) FrI.rf, FrJ.rf⟩
theorem bw_note {D : zMd} {f s : Nat} {src : Int32} : bwE D (pm_note D f s src) := by
  obtain ⟨t, fr, lo, I, J⟩ := D
  exact bw_up (by decide) (by decide)
theorem RV.note {t s : Nat} {G : zG} {V : zV} {src : Int32} (h : RV t G V) : RV t (gnote G s src) (vnote s src V) := by
  obtain ⟨ad, bz, nt, o, la, ou, x0, x1, de, st, nm, hd⟩ := G
  obtain ⟨⟨v0, v1, w2, v3, v4⟩, N, O, n, s0, s1, L⟩ := V
  obtain ⟨a1, a2, a3, a4, a5, a6, a7, a8, a9⟩ := h
  refine ⟨a1, a2, a3, a4, fun k hk => ?_, a6, a7, a8, a9⟩
  show (if k = s then src else N k) = upd nt s src k
  unfold upd
  by_cases e : k = s
  · rw [if_pos e, if_pos e]
  · rw [if_neg e, if_neg e]
    exact a5 k hk
theorem sim_note {t f s : Nat} {B : zB} {G : zG} {D : zMd} {src : Int32} (hs : s < 5) (hB : RB t B D) (h : RV t G (vw D f)) : SIM t f D (B, gnote G s src) (pm_note D f s src) := ⟨hB.mod bw_note, fr_note hs, by rw [vw_note hs]; exact RV.note h⟩
/-- a claim, once it is noted -/
def pf_tc2 (B : zB) (num : Int32) (G : zG) (src : Int32) (other : Int64) : zB × zG := match G with
  | (ad, bz, nt, o, la, ou, x0, x1, de, st, nm, hd) =>
    if st = nI 3 then (B, (ad, bz, nt, o, la, ou, x0, x1, de, st, nm, hd))
    else if src = ad then
      if pf_less nm other = true then
        (pc_put B num ad (nI 418250752) (nI 255) nm, (ad, bz, nt, o, la, ou, x0, x1, de, st, nm, if st = nI 1 then (pc_put B num ad (nI 418250752) (nI 255) nm).2.2.2.2.2 + lN 250 else hd))
      else pf_lose B num (ad, bz, nt, o, la, ou, x0, x1, de, st, nm, hd)
    else (B, (ad, bz, nt, o, la, ou, x0, x1, de, st, nm, hd))
theorem tc_eq {B : zB} {num : Int32} {G : zG} {s : Nat} {src : Int32} {other : Int64} : pf_takeClaim B num G s src other = pf_tc2 B num (gnote G s src) src other := by
  obtain ⟨ad, bz, nt, o, la, ou, x0, x1, de, st, nm, hd⟩ := G
  rfl
def pm_again (D : zMd) (f : Nat) : zMd := match D with
  | (t, fr, lo, I, J) => (t, fr, lo, up2 I 4 f (if I 0 f = nI 1 then t + nI 250 else I 4 f), J)
def pm_lz (D : zMd) (f : Nat) (st ad : Int32) : zMd := match D with
  | (t, fr, lo, I, J) => (t, fr, lo, up2 (up2 (up2 (up2 (up2 (up2 I 10 f (if I 9 f ≤ 0 then I 10 f else nI 13)) 9 f (nI 0)) 17 f (nI 0)) 0 f st) 1 f ad) 4 f (t + nI 250), J)
def pm_cl2 (D : zMd) (f : Nat) (src : Int32) (other : Int64) : zMd :=
    if D.2.2.2.1 0 f = nI 3 then D
    else if src = D.2.2.2.1 1 f then
      if pm_below (D.2.2.2.2 2 f) other = true then pm_putCl (pm_again D f) f
      else if D.2.2.2.2 2 f < lN 0 ∧ ¬ pm_spare D.2.2.2.1 f < 0 then pm_putCl (pm_lz D f (nI 1) (pm_spare D.2.2.2.1 f)) f
      else pm_putCl (pm_lz D f (nI 3) (D.2.2.2.1 1 f)) f
    else D
theorem cl_eq {D : zMd} {f s : Nat} {src : Int32} {other : Int64} : pm_claimed D f s src other = pm_cl2 (pm_note D f s src) f src other := by
  obtain ⟨t, fr, lo, I, J⟩ := D
  unfold pm_claimed pm_cl2
  simp (disch := decide) only [pm_note, pm_again, pm_lz, up2_row]
theorem vw_again {D : zMd} {f : Nat} : vw (pm_again D f) f = ((D.2.2.2.1 0 f, D.2.2.2.1 1 f, D.2.2.2.2 2 f, D.2.2.2.1 3 f, if D.2.2.2.1 0 f = nI 1 then D.1 + nI 250 else D.2.2.2.1 4 f), (vw D f).2) := by
  obtain ⟨t, fr, lo, I, J⟩ := D
  simp [vw, vwI, slv, up2_r, pm_again]
theorem fr_again {D : zMd} {f : Nat} : Fr f D (pm_again D f) := by
  obtain ⟨t, fr, lo, I, J⟩ := D
  exact ⟨rfl, FrI.up rfl FrI.rf, FrJ.rf⟩
theorem bw_again {D : zMd} {f : Nat} : bwE D (pm_again D f) := by
  obtain ⟨t, fr, lo, I, J⟩ := D
  exact bw_up (by decide) (by decide)
theorem vw_lz {D : zMd} {f : Nat} {st ad : Int32} : vw (pm_lz D f st ad) f = ((st, ad, D.2.2.2.2 2 f, D.2.2.2.1 3 f, D.1 + nI 250), (vw D f).2.1, (nI 0, (if D.2.2.2.1 9 f ≤ 0 then D.2.2.2.1 10 f else nI 13), D.2.2.2.1 11 f, D.2.2.2.1 12 f, D.2.2.2.1 13 f, D.2.2.2.2 14 f, D.2.2.2.1 15 f, D.2.2.2.1 16 f), nI 0, (vw D f).2.2.2.2) := by
  obtain ⟨t, fr, lo, I, J⟩ := D
  simp [vw, vwI, slv, up2_r, pm_lz]
theorem fr_lz {D : zMd} {f : Nat} {st ad : Int32} : Fr f D (pm_lz D f st ad) := by
  obtain ⟨t, fr, lo, I, J⟩ := D
  exact ⟨rfl, FrI.up rfl (FrI.up rfl (FrI.up rfl (FrI.up rfl (FrI.up rfl (FrI.up rfl FrI.rf))))), FrJ.rf⟩
theorem bw_lz {D : zMd} {f : Nat} {st ad : Int32} : bwE D (pm_lz D f st ad) := by
  obtain ⟨t, fr, lo, I, J⟩ := D
  refine ⟨rfl, rfl, rfl, ?_, ?_, rfl⟩
  · simp (disch := decide) only [pm_lz, up2_row]
  · simp (disch := decide) only [pm_lz, up2_row]
theorem src_lz {D : zMd} {f : Nat} {st ad : Int32} : pm_src (pm_lz D f st ad).2.2.2.1 f = if st = nI 3 then nI 254 else ad := by
  obtain ⟨t, fr, lo, I, J⟩ := D
  simp [pm_src, pm_lz, up2_r]
theorem nm_lz {D : zMd} {f : Nat} {st ad : Int32} : (pm_lz D f st ad).2.2.2.2 = D.2.2.2.2 := by
  obtain ⟨t, fr, lo, I, J⟩ := D
  rfl
theorem src_again {D : zMd} {f : Nat} : pm_src (pm_again D f).2.2.2.1 f = pm_src D.2.2.2.1 f := by
  obtain ⟨t, fr, lo, I, J⟩ := D
  simp (disch := decide) only [pm_src, pm_again, up2_row]
theorem nm_again {D : zMd} {f : Nat} : (pm_again D f).2.2.2.2 = D.2.2.2.2 := by
  obtain ⟨t, fr, lo, I, J⟩ := D
  rfl
theorem ntd_eq {I : Nat → Nat → Int32} {nt : Nat → Int32} {f : Nat} (h : ∀ k, k < 5 → I 5 (5 * f + k) = nt k) (a : Int32) : pm_ntd I f a 5 = pf_noted nt a := by
  simp only [pm_ntd, pf_noted, Bool.false_or]
  rw [h 0 (by decide), h 1 (by decide), h 2 (by decide), h 3 (by decide), h 4 (by decide)]
theorem spare_eq {I : Nat → Nat → Int32} {nt : Nat → Int32} {f : Nat} (h : ∀ k, k < 5 → I 5 (5 * f + k) = nt k) : (pf_spare nt = nI 132 ∧ pm_spare I f = -1) ∨ ∃ a, 128 ≤ a ∧ a ≤ 131 ∧ pf_spare nt = nI a ∧ pm_spare I f = nI a := by
  unfold pf_spare pm_spare
  rw [ntd_eq h, ntd_eq h, ntd_eq h, ntd_eq h]
  by_cases h0 : pf_noted nt (nI 128) = false
  · rw [if_pos h0, if_pos h0]
    exact Or.inr ⟨128, by decide, by decide, rfl, rfl⟩
  · rw [if_neg h0, if_neg h0]
    by_cases h1 : pf_noted nt (nI 129) = false
    · rw [if_pos h1, if_pos h1]
      exact Or.inr ⟨129, by decide, by decide, rfl, rfl⟩
    · rw [if_neg h1, if_neg h1]
      by_cases h2 : pf_noted nt (nI 130) = false
      · rw [if_pos h2, if_pos h2]
        exact Or.inr ⟨130, by decide, by decide, rfl, rfl⟩
      · rw [if_neg h2, if_neg h2]
        by_cases h3 : pf_noted nt (nI 131) = false
        · rw [if_pos h3, if_pos h3]
          exact Or.inr ⟨131, by decide, by decide, rfl, rfl⟩
        · rw [if_neg h3, if_neg h3]
          exact Or.inl ⟨rfl, rfl⟩
/-- the sessions end -/
theorem RS.none {t : Nat} {st : Int32} {x0 x1 : zIn} {s0 s1 : zSl} (h0 : x0.2.1 = false) (h1 : x1.2.1 = false) (d0 : x0.2.2.2.2.2.2 = pc_NEVER) (d1 : x1.2.2.2.2.2.2 = pc_NEVER) (e0 : x0.2.2.2.1 ≤ 8) (e1 : x1.2.2.2.1 ≤ 8) : RS t st x0 x1 (nI 0) s0 s1 := by
  have n0 : ¬ x0.2.1 = true := by rw [h0]; decide
  have n1 : ¬ x1.2.1 = true := by rw [h1]; decide
  exact ⟨by rw [oc_0 h0, oc_0 h1], fun z => absurd z n0, fun z => absurd z n1, fun z => absurd z n0, fun _ => d0, fun _ => d1, e0, e1, fun z => z.elim (fun z => absurd z n0) (fun z => absurd z n1)⟩
theorem RS.ends {t : Nat} {st st' : Int32} {x0 x1 : zIn} {n : Int32} {s0 s1 s0' s1' : zSl} (h : RS t st x0 x1 n s0 s1) : RS t st' (pc_iend x0) (pc_iend x1) (nI 0) s0' s1' := by
  obtain ⟨-, -, -, -, -, -, b7, b8, -⟩ := h
  obtain ⟨ms0, op0, he0, ex0, lt0, ak0, du0⟩ := x0
  obtain ⟨ms1, op1, he1, ex1, lt1, ak1, du1⟩ := x1
  exact RS.none rfl rfl rfl rfl b7 b8
theorem RO.ends {t : Nat} {st st' : Int32} {ou : zOu} {v9 v10 v11 v12 v13 v15 v16 v15' v16' : Int32} {w14 : Int64} (h : RO t st ou (v9, v10, v11, v12, v13, w14, v15, v16)) (hs : st ≠ nI 0) : RO t st' (if ou.1 = 0 then ou else pc_oend ou (nI 13)) (nI 0, (if v9 ≤ 0 then v10 else nI 13), v11, v12, v13, w14, v15', v16') := by
  obtain ⟨ph, re, tg, gp, si, se, nx, du⟩ := ou
  obtain ⟨h1, h2, h3, h4, h5, h6, h7, h8⟩ := h
  by_cases hp : ph = nI 0
  · subst hp
    have hd : du = pc_NEVER := by
      rcases h8 with q | ⟨-, -, -, -, -, ⟨q, -⟩ | ⟨q | q, -⟩⟩
      · exact q.2
      · exact absurd q (by decide)
      · exact absurd q (by decide)
      · exact absurd q (by decide)
    rw [if_pos (show nI 0 = 0 from rfl), h1, if_pos (by decide)]
    exact ⟨rfl, fun _ => h2 hs, h3, h4, h5, h6, h7, Or.inl ⟨rfl, hd⟩⟩
  · have hp2 : ¬ ph = 0 := hp
    have hl : ¬ ph ≤ 0 := by
      rcases h8 with q | ⟨-, -, -, -, -, ⟨q, -⟩ | ⟨q | q, -⟩⟩
      · exact absurd q.1 hp
      · rw [q]; decide
      · rw [q]; decide
      · rw [q]; decide
    rw [if_neg (show ¬ ph = 0 from hp2), h1, if_neg hl]
    exact ⟨rfl, fun _ => rfl, h3, h4, h5, h6, h7, Or.inl ⟨rfl, rfl⟩⟩
theorem ends_eq {G : zG} : pf_ends G = (G.1, G.2.1, G.2.2.1, G.2.2.2.1, G.2.2.2.2.1, (if G.2.2.2.2.2.1.1 = 0 then G.2.2.2.2.2.1 else pc_oend G.2.2.2.2.2.1 (nI 13)), pc_iend G.2.2.2.2.2.2.1, pc_iend G.2.2.2.2.2.2.2.1, G.2.2.2.2.2.2.2.2.1, G.2.2.2.2.2.2.2.2.2.1, G.2.2.2.2.2.2.2.2.2.2.1, G.2.2.2.2.2.2.2.2.2.2.2) := by
  obtain ⟨ad, bz, nt, o, la, ou, x0, x1, de, st, nm, hd⟩ := G
  rfl
theorem RV.lz {t f : Nat} {G : zG} {D : zMd} {st ad ad' : Int32} {hd : Int64} (h : RV t G (vw D f)) (hs : G.2.2.2.2.2.2.2.2.2.1 ≠ nI 0) (hA : RA t st ad' hd ad (D.1 + nI 250)) : RV t (ad', G.2.1, G.2.2.1, G.2.2.2.1, G.2.2.2.2.1, (if G.2.2.2.2.2.1.1 = 0 then G.2.2.2.2.2.1 else pc_oend G.2.2.2.2.2.1 (nI 13)), pc_iend G.2.2.2.2.2.2.1, pc_iend G.2.2.2.2.2.2.2.1, G.2.2.2.2.2.2.2.2.1, st, G.2.2.2.2.2.2.2.2.2.2.1, hd) (vw (pm_lz D f st ad) f) := by
  rw [vw_lz]
  obtain ⟨ad0, bz, nt, o, la, ou, x0, x1, de, st0, nm, hd0⟩ := G
  obtain ⟨a1, a2, a3, a4, a5, a6, a7, a8, a9⟩ := h
  exact ⟨a1, a2, rfl, a4, a5, hA, RO.ends a7 hs, RS.ends a8, a9⟩
theorem RV.nt {t f : Nat} {G : zG} {D : zMd} (h : RV t G (vw D f)) : ∀ k, k < 5 → D.2.2.2.1 5 (5 * f + k) = G.2.2.1 k := by
  obtain ⟨ad0, bz, nt, o, la, ou, x0, x1, de, st0, nm, hd0⟩ := G
  obtain ⟨a1, a2, a3, a4, a5, a6, a7, a8, a9⟩ := h
  intro k hk
  have := a5 k hk
  have e : (if k < 5 then D.2.2.2.1 5 (5 * f + k) else 0) = nt k := this
  rw [if_pos hk] at e
  exact e
theorem RV.nm {t f : Nat} {G : zG} {D : zMd} (h : RV t G (vw D f)) : D.2.2.2.2 2 f = G.2.2.2.2.2.2.2.2.2.2.1 := by
  obtain ⟨ad0, bz, nt, o, la, ou, x0, x1, de, st0, nm, hd0⟩ := G
  exact h.2.2.2.1
theorem lose_eq {B : zB} {num : Int32} {G : zG} : pf_lose B num G = if G.2.2.2.2.2.2.2.2.2.2.1 < lN 0 ∧ ¬ nI 131 < pf_spare G.2.2.1 then (pc_put B num (pf_spare G.2.2.1) (nI 418250752) (nI 255) G.2.2.2.2.2.2.2.2.2.2.1, (pf_spare G.2.2.1, G.2.1, G.2.2.1, G.2.2.2.1, G.2.2.2.2.1, (if G.2.2.2.2.2.1.1 = 0 then G.2.2.2.2.2.1 else pc_oend G.2.2.2.2.2.1 (nI 13)), pc_iend G.2.2.2.2.2.2.1, pc_iend G.2.2.2.2.2.2.2.1, G.2.2.2.2.2.2.2.2.1, nI 1, G.2.2.2.2.2.2.2.2.2.2.1, B.2.2.2.2.2 + lN 250))
    else (pc_put B num (nI 254) (nI 418250752) (nI 255) G.2.2.2.2.2.2.2.2.2.2.1, (nI 254, G.2.1, G.2.2.1, G.2.2.2.1, G.2.2.2.2.1, (if G.2.2.2.2.2.1.1 = 0 then G.2.2.2.2.2.1 else pc_oend G.2.2.2.2.2.1 (nI 13)), pc_iend G.2.2.2.2.2.2.1, pc_iend G.2.2.2.2.2.2.2.1, G.2.2.2.2.2.2.2.2.1, nI 3, G.2.2.2.2.2.2.2.2.2.2.1, pc_NEVER)) := by
  obtain ⟨ad, bz, nt, o, la, ou, x0, x1, de, st, nm, hd⟩ := G
  rfl
theorem sim_lose {t f : Nat} {B : zB} {G : zG} {D : zMd} (hf : f < 5) (hB : RB t B D) (h : RV t G (vw D f)) (hs : G.2.2.2.2.2.2.2.2.2.1 ≠ nI 0) : SIM t f D (pf_lose B (nI f) G) (if D.2.2.2.2 2 f < lN 0 ∧ ¬ pm_spare D.2.2.2.1 f < 0 then pm_putCl (pm_lz D f (nI 1) (pm_spare D.2.2.2.1 f)) f else pm_putCl (pm_lz D f (nI 3) (D.2.2.2.1 1 f)) f) := by
  have hnm := RV.nm h
  have hn : B.2.2.2.2.2 = lN t := hB.1
  have ht' : D.1 = nI t := hB.2.1
  have hbad : ∀ (c1 : ¬ (G.2.2.2.2.2.2.2.2.2.2.1 < lN 0 ∧ ¬ nI 131 < pf_spare G.2.2.1)) (c2 : ¬ (D.2.2.2.2 2 f < lN 0 ∧ ¬ pm_spare D.2.2.2.1 f < 0)), SIM t f D (pf_lose B (nI f) G) (if D.2.2.2.2 2 f < lN 0 ∧ ¬ pm_spare D.2.2.2.1 f < 0 then pm_putCl (pm_lz D f (nI 1) (pm_spare D.2.2.2.1 f)) f else pm_putCl (pm_lz D f (nI 3) (D.2.2.2.1 1 f)) f) := by
    intro c1 c2
    rw [lose_eq, if_neg c1, if_neg c2]
    refine ⟨sim_cl (hB.mod bw_lz) hf (by rw [src_lz, if_pos rfl]) (by decide) (by rw [nm_lz]; exact hnm), fr_lz.tr fr_cl, ?_⟩
    rw [vw_cl]
    exact RV.lz h hs (Or.inr (Or.inr (Or.inr ⟨rfl, rfl, rfl⟩)))
  rcases spare_eq (RV.nt h) with ⟨q1, q2⟩ | ⟨a, ha1, ha2, q1, q2⟩
  · exact hbad (fun z => z.2 (by rw [q1]; decide)) (fun z => z.2 (by rw [q2]; decide))
  · by_cases hneg : D.2.2.2.2 2 f < lN 0
    · have c1 : G.2.2.2.2.2.2.2.2.2.2.1 < lN 0 ∧ ¬ nI 131 < pf_spare G.2.2.1 := ⟨by rw [← hnm]; exact hneg, by rw [q1]; exact nI_nlt (by omega) (by omega)⟩
      have c2 : D.2.2.2.2 2 f < lN 0 ∧ ¬ pm_spare D.2.2.2.1 f < 0 := ⟨hneg, by rw [q2]; exact nI_neg (by omega)⟩
      rw [lose_eq, if_pos c1, if_pos c2, q1, q2]
      refine ⟨sim_cl (hB.mod bw_lz) hf (by rw [src_lz, if_neg (by decide)]) (by omega) (by rw [nm_lz]; exact hnm), fr_lz.tr fr_cl, ?_⟩
      rw [vw_cl]
      refine RV.lz h hs (Or.inr (Or.inl ⟨rfl, ⟨a, by omega, rfl, rfl⟩, t + 250, by omega, by omega, ?_, ?_⟩))
      · rw [hn, lN_add]
      · rw [ht', nI_add]
    · exact hbad (fun z => hneg (by rw [hnm]; exact z.1)) (fun z => hneg z.1)
theorem tc2_eq {B : zB} {num : Int32} {G : zG} {src : Int32} {other : Int64} : pf_tc2 B num G src other = if G.2.2.2.2.2.2.2.2.2.1 = nI 3 then (B, G) else if src = G.1 then (if pf_less G.2.2.2.2.2.2.2.2.2.2.1 other = true then (pc_put B num G.1 (nI 418250752) (nI 255) G.2.2.2.2.2.2.2.2.2.2.1, (G.1, G.2.1, G.2.2.1, G.2.2.2.1, G.2.2.2.2.1, G.2.2.2.2.2.1, G.2.2.2.2.2.2.1, G.2.2.2.2.2.2.2.1, G.2.2.2.2.2.2.2.2.1, G.2.2.2.2.2.2.2.2.2.1, G.2.2.2.2.2.2.2.2.2.2.1, if G.2.2.2.2.2.2.2.2.2.1 = nI 1 then (pc_put B num G.1 (nI 418250752) (nI 255) G.2.2.2.2.2.2.2.2.2.2.1).2.2.2.2.2 + lN 250 else G.2.2.2.2.2.2.2.2.2.2.2)) else pf_lose B num G) else (B, G) := by
  obtain ⟨ad, bz, nt, o, la, ou, x0, x1, de, st, nm, hd⟩ := G
  rfl
theorem RV.ra {t f : Nat} {G : zG} {D : zMd} (h : RV t G (vw D f)) : RA t G.2.2.2.2.2.2.2.2.2.1 G.1 G.2.2.2.2.2.2.2.2.2.2.2 (D.2.2.2.1 1 f) (D.2.2.2.1 4 f) := by
  obtain ⟨ad0, bz, nt, o, la, ou, x0, x1, de, st0, nm, hd0⟩ := G
  exact h.2.2.2.2.2.1
theorem RV.again {t f : Nat} {G : zG} {D : zMd} {hd : Int64} (h : RV t G (vw D f)) (hA : RA t G.2.2.2.2.2.2.2.2.2.1 G.1 hd (D.2.2.2.1 1 f) (if D.2.2.2.1 0 f = nI 1 then D.1 + nI 250 else D.2.2.2.1 4 f)) : RV t (G.1, G.2.1, G.2.2.1, G.2.2.2.1, G.2.2.2.2.1, G.2.2.2.2.2.1, G.2.2.2.2.2.2.1, G.2.2.2.2.2.2.2.1, G.2.2.2.2.2.2.2.2.1, G.2.2.2.2.2.2.2.2.2.1, G.2.2.2.2.2.2.2.2.2.2.1, hd) (vw (pm_again D f) f) := by
  rw [vw_again]
  obtain ⟨ad0, bz, nt, o, la, ou, x0, x1, de, st0, nm, hd0⟩ := G
  obtain ⟨a1, a2, a3, a4, a5, a6, a7, a8, a9⟩ := h
  exact ⟨a1, a2, a3, a4, a5, hA, a7, a8, a9⟩
theorem sim_tc2 {t f : Nat} {B : zB} {G : zG} {D : zMd} {src : Int32} {other : Int64} (hf : f < 5) (hB : RB t B D) (h : RV t G (vw D f)) (hs : G.2.2.2.2.2.2.2.2.2.1 ≠ nI 0) : SIM t f D (pf_tc2 B (nI f) G src other) (pm_cl2 D f src other) := by
  have hst := RV.st h
  have hnm := RV.nm h
  have hra := RV.ra h
  have hn : B.2.2.2.2.2 = lN t := hB.1
  have ht' : D.1 = nI t := hB.2.1
  obtain ⟨a, ha, ea, hsr⟩ := RV.srcN h hs
  have hid : SIM t f D (B, G) D := ⟨hB, Fr.rf, h⟩
  rw [tc2_eq]
  unfold pm_cl2
  by_cases h3 : G.2.2.2.2.2.2.2.2.2.1 = nI 3
  · have h3' : D.2.2.2.1 0 f = nI 3 := hst.trans h3
    rw [if_pos h3, if_pos h3']
    exact hid
  · have h3' : ¬ D.2.2.2.1 0 f = nI 3 := fun z => h3 (hst.symm.trans z)
    rw [if_neg h3, if_neg h3']
    have e1 : D.2.2.2.1 1 f = G.1 := by
      rcases hra with ⟨q, -⟩ | ⟨-, ⟨b, -, q1, q2⟩, -⟩ | ⟨-, ⟨b, -, q1, q2⟩, -⟩ | ⟨q, -⟩
      · exact absurd q hs
      · exact q2.trans q1.symm
      · exact q2.trans q1.symm
      · exact absurd q h3
    by_cases hsc : src = G.1
    · have hsc' : src = D.2.2.2.1 1 f := hsc.trans e1.symm
      rw [if_pos hsc, if_pos hsc']
      rw [hnm, ← less_eq]
      by_cases hl : pf_less G.2.2.2.2.2.2.2.2.2.2.1 other = true
      · rw [if_pos hl, if_pos hl]
        refine ⟨?_, fr_again.tr fr_cl, ?_⟩
        · show RB t (pc_put B (nI f) G.1 _ _ _) _
          rw [ea]
          exact sim_cl (hB.mod bw_again) hf (by rw [src_again]; exact hsr) ha (by rw [nm_again]; exact hnm)
        · rw [vw_cl]
          refine RV.again h ?_
          rw [hst, pc_put_now, hn, lN_add, ht', nI_add]
          rcases hra with ⟨q, -⟩ | ⟨q, q1, -⟩ | ⟨q, q1, q2⟩ | ⟨q, -⟩
          · exact absurd q hs
          · rw [if_pos q, if_pos q]
            exact Or.inr (Or.inl ⟨q, q1, t + 250, by omega, by omega, rfl, rfl⟩)
          · rw [if_neg (by rw [q]; decide), if_neg (by rw [q]; decide)]
            exact Or.inr (Or.inr (Or.inl ⟨q, q1, q2⟩))
          · exact absurd q h3
      · rw [if_neg hl, if_neg hl]
        have := sim_lose hf hB h hs
        rw [hnm] at this
        exact this
    · have hsc' : ¬ src = D.2.2.2.1 1 f := fun z => hsc (z.trans e1)
      rw [if_neg hsc, if_neg hsc']
      exact hid
theorem sim_claimed {t f s : Nat} {B : zB} {G : zG} {D : zMd} {src : Int32} {other : Int64} (hf : f < 5) (hs5 : s < 5) (hB : RB t B D) (h : RV t G (vw D f)) (hs : G.2.2.2.2.2.2.2.2.2.1 ≠ nI 0) : SIM t f D (pf_takeClaim B (nI f) G s src other) (pm_claimed D f s src other) := by
  rw [tc_eq, cl_eq]
  have h1 := sim_note (src := src) hs5 hB h
  refine h1.tr (sim_tc2 hf h1.1 h1.2.2 ?_)
  exact hs
theorem sim_answer {t f : Nat} {B : zB} {G : zG} {D : zMd} (hf : f < 5) (hB : RB t B D) (h : RV t G (vw D f)) (hs : G.2.2.2.2.2.2.2.2.2.1 ≠ nI 0) : SIM t f D (pc_put B (nI f) G.1 (nI 418250752) (nI 255) G.2.2.2.2.2.2.2.2.2.2.1, G) (pm_putCl D f) := by
  obtain ⟨a, ha, ea, hsr⟩ := RV.srcN h hs
  refine ⟨?_, fr_cl, by rw [vw_cl]; exact h⟩
  rw [ea]
  exact sim_cl hB hf hsr ha (RV.nm h)
/-- starting -/
def pm_st1 (D : zMd) (f : Nat) (name : Int64) (a : Int32) : zMd := match D with
  | (t, fr, lo, I, J) => (t, fr, lo, up2 (up2 (pm_fill (up2 (up2 (up2 I 0 f (nI 1)) 1 f a) 4 f (t + nI 250)) f 5) 10 f (nI 0)) 28 f (nI 0), up2 J 2 f name)
theorem fill_row {I : Nat → Nat → Int32} {f k a : Nat} (h : a ≠ 5) : pm_fill I f k a = I a := by
  funext j
  unfold pm_fill
  rw [if_neg (fun z => h z.1)]
theorem fill_5 {I : Nat → Nat → Int32} {f : Nat} : (fun k => if k < 5 then pm_fill I f 5 5 (5 * f + k) else 0) = (fun k => if k < 5 then (-1 : Int32) else 0) := by
  funext k
  by_cases h : k < 5
  · rw [if_pos h, if_pos h]
    unfold pm_fill
    rw [if_pos ⟨rfl, by omega, by omega⟩]
  · rw [if_neg h, if_neg h]
theorem vw_st1 {D : zMd} {f : Nat} {name : Int64} {a : Int32} : vw (pm_st1 D f name a) f = ((nI 1, a, name, D.2.2.2.1 3 f, D.1 + nI 250), (fun k => if k < 5 then (-1 : Int32) else 0), (D.2.2.2.1 9 f, nI 0, D.2.2.2.1 11 f, D.2.2.2.1 12 f, D.2.2.2.1 13 f, D.2.2.2.2 14 f, D.2.2.2.1 15 f, D.2.2.2.1 16 f), D.2.2.2.1 17 f, (vw D f).2.2.2.2.1, (vw D f).2.2.2.2.2.1, nI 0, (vw D f).2.2.2.2.2.2.2) := by
  obtain ⟨t, fr, lo, I, J⟩ := D
  rw [← fill_5 (I := up2 (up2 (up2 I 0 f (nI 1)) 1 f a) 4 f (t + nI 250)) (f := f)]
  simp (disch := decide) only [vw, vwI, slv, pm_st1, up2_row, fill_row]
  simp [up2_r]
theorem bw_st1 {D : zMd} {f : Nat} {name : Int64} {a : Int32} : bwE D (pm_st1 D f name a) := by
  obtain ⟨t, fr, lo, I, J⟩ := D
  refine ⟨rfl, rfl, rfl, ?_, ?_, ?_⟩
  · simp (disch := decide) only [pm_st1, up2_row, fill_row]
  · simp (disch := decide) only [pm_st1, up2_row, fill_row]
  · simp (disch := decide) only [pm_st1, up2_row]
theorem fr_st1 {D : zMd} {f : Nat} {name : Int64} {a : Int32} : Fr f D (pm_st1 D f name a) := by
  obtain ⟨t, fr, lo, I, J⟩ := D
  refine ⟨rfl, FrI.up rfl (FrI.up rfl ?_), FrJ.up rfl FrJ.rf⟩
  have h1 : FrI f I (up2 (up2 (up2 I 0 f (nI 1)) 1 f a) 4 f (t + nI 250)) := FrI.up rfl (FrI.up rfl (FrI.up rfl FrI.rf))
  intro b j h6 h8 hn
  unfold pm_fill
  by_cases h : b = 5 ∧ 5 * f ≤ j ∧ j < 5 * f + 5
  · obtain ⟨rfl, h3, h4⟩ := h
    exact absurd (show j / 5 = f by omega) hn
  · rw [if_neg h]
    exact h1 b j h6 h8 hn
theorem src_st1 {D : zMd} {f : Nat} {name : Int64} {a : Int32} : pm_src (pm_st1 D f name a).2.2.2.1 f = a := by
  obtain ⟨t, fr, lo, I, J⟩ := D
  unfold pm_src pm_st1
  simp (disch := decide) only [up2_row, fill_row]
  simp [up2_r]
  intro h
  exact absurd h (by decide)
theorem nm_st1 {D : zMd} {f : Nat} {name : Int64} {a : Int32} : (pm_st1 D f name a).2.2.2.2 2 f = name := by
  obtain ⟨t, fr, lo, I, J⟩ := D
  simp [pm_st1, up2_r]
theorem on_eq {B : zB} {num : Int32} {G : zG} {name : Int64} {a : Int32} : pf_on B num G name a = (pc_put B num a (nI 418250752) (nI 255) name, (a, G.2.1, pf_fill G.2.2.1 5, G.2.2.2.1, G.2.2.2.2.1, (G.2.2.2.2.2.1.1, nI 0, G.2.2.2.2.2.1.2.2), G.2.2.2.2.2.2.1, G.2.2.2.2.2.2.2.1, nI 0, nI 1, name, B.2.2.2.2.2 + lN 250)) := by
  obtain ⟨ad, bz, nt, o, la, ⟨ph, re, ou⟩, x0, x1, de, st, nm, hd⟩ := G
  rfl
theorem sim_on {t f a : Nat} {B : zB} {G : zG} {D : zMd} {name : Int64} (hf : f < 5) (ha : a ≤ 253) (hB : RB t B D) (h : RV t G (vw D f)) (hs : G.2.2.2.2.2.2.2.2.2.1 = nI 0) : SIM t f D (pf_on B (nI f) G name (nI a)) (pm_putCl (pm_st1 D f name (nI a)) f) := by
  have hn : B.2.2.2.2.2 = lN t := hB.1
  have ht' : D.1 = nI t := hB.2.1
  rw [on_eq]
  refine ⟨sim_cl (hB.mod bw_st1) hf src_st1 (by omega) nm_st1, fr_st1.tr fr_cl, ?_⟩
  rw [vw_cl, vw_st1]
  obtain ⟨ad, bz, nt, o, la, ⟨ph, re, tg, gp, si, se, nx, du⟩, x0, x1, de, st, nm, hd⟩ := G
  have hs : st = nI 0 := hs
  subst hs
  obtain ⟨a1, a2, a3, a4, a5, a6, a7, a8, a9⟩ := h
  have n2 : nI 0 ≠ nI 2 := by decide
  have c0 : x0.2.1 = false := ts_nt (fun z => n2 (a8.2.2.2.2.2.2.2.2 (Or.inl z)))
  have c1 : x1.2.1 = false := ts_nt (fun z => n2 (a8.2.2.2.2.2.2.2.2 (Or.inr z)))
  refine ⟨a1, a2, rfl, rfl, fun k hk => ?_, Or.inr (Or.inl ⟨rfl, ⟨a, ha, rfl, rfl⟩, t + 250, by omega, by omega, ?_, ?_⟩), ?_, ?_, ?_⟩
  · show (if k < 5 then (-1 : Int32) else 0) = pf_fill nt 5 k
    unfold pf_fill
    rw [if_pos hk, if_pos hk]
  · show B.2.2.2.2.2 + lN 250 = lN (t + 250)
    rw [hn, lN_add]
  · rw [ht', nI_add]
  · obtain ⟨h1, h2, h3, h4, h5, h6, h7, h8⟩ := a7
    have h8' : ph = nI 0 ∧ du = pc_NEVER := by
      rcases h8 with q | ⟨q, -⟩
      · exact q
      · exact absurd q n2
    exact ⟨h1, fun _ => rfl, h3, h4, h5, h6, h7, Or.inl h8'⟩
  · have hN : D.2.2.2.1 17 f = nI 0 := by
      have := a8.1
      rw [oc_0 c0, oc_0 c1] at this
      exact this
    rw [hN]
    exact RS.none c0 c1 (a8.2.2.2.2.1 c0) (a8.2.2.2.2.2.1 c1) a8.2.2.2.2.2.2.1 a8.2.2.2.2.2.2.2.1
  · obtain ⟨pk, so, gr, sz, ta⟩ := la
    obtain ⟨-, q, -⟩ := a9
    exact ⟨rfl, q, fun z => absurd z (by decide)⟩
/-- stopping, but for the frames -/
def pm_sp1 (D : zMd) (f : Nat) : zMd := match D with
  | (t, fr, lo, I, J) => (t, fr, lo, up2 (up2 (up2 I 0 f (nI 0)) 9 f (nI 0)) 17 f (nI 0), J)
theorem vw_sp1 {D : zMd} {f : Nat} : vw (pm_sp1 D f) f = ((nI 0, D.2.2.2.1 1 f, D.2.2.2.2 2 f, D.2.2.2.1 3 f, D.2.2.2.1 4 f), (vw D f).2.1, (nI 0, D.2.2.2.1 10 f, D.2.2.2.1 11 f, D.2.2.2.1 12 f, D.2.2.2.1 13 f, D.2.2.2.2 14 f, D.2.2.2.1 15 f, D.2.2.2.1 16 f), nI 0, (vw D f).2.2.2.2) := by
  obtain ⟨t, fr, lo, I, J⟩ := D
  simp [vw, vwI, slv, up2_r, pm_sp1]
theorem fr_sp1 {D : zMd} {f : Nat} : Fr f D (pm_sp1 D f) := by
  obtain ⟨t, fr, lo, I, J⟩ := D
  exact ⟨rfl, FrI.up rfl (FrI.up rfl (FrI.up rfl FrI.rf)), FrJ.rf⟩
theorem bw_sp1 {D : zMd} {f : Nat} : bwE D (pm_sp1 D f) := by
  obtain ⟨t, fr, lo, I, J⟩ := D
  refine ⟨rfl, rfl, rfl, ?_, ?_, rfl⟩
  · simp (disch := decide) only [pm_sp1, up2_row]
  · simp (disch := decide) only [pm_sp1, up2_row]
theorem off_eq {B : zB} {num : Int32} {G : zG} : pf_off B num G = (pc_takeOf B num, (G.1, G.2.1, G.2.2.1, G.2.2.2.1, G.2.2.2.2.1, (if G.2.2.2.2.2.1.1 = 0 then G.2.2.2.2.2.1 else pc_oend G.2.2.2.2.2.1 (nI 13)), pc_iend G.2.2.2.2.2.2.1, pc_iend G.2.2.2.2.2.2.2.1, G.2.2.2.2.2.2.2.2.1, nI 0, G.2.2.2.2.2.2.2.2.2.2.1, pc_NEVER)) := by
  obtain ⟨ad, bz, nt, o, la, ou, x0, x1, de, st, nm, hd⟩ := G
  rfl
theorem RO.off {t : Nat} {st : Int32} {ou : zOu} {v9 v10 v11 v12 v13 v15 v16 v10' v15' v16' : Int32} {w14 : Int64} (h : RO t st ou (v9, v10, v11, v12, v13, w14, v15, v16)) : RO t (nI 0) (if ou.1 = 0 then ou else pc_oend ou (nI 13)) (nI 0, v10', v11, v12, v13, w14, v15', v16') := by
  obtain ⟨ph, re, tg, gp, si, se, nx, du⟩ := ou
  obtain ⟨h1, h2, h3, h4, h5, h6, h7, h8⟩ := h
  by_cases hp : ph = nI 0
  · subst hp
    have hd : du = pc_NEVER := by
      rcases h8 with q | ⟨-, -, -, -, -, ⟨q, -⟩ | ⟨q | q, -⟩⟩
      · exact q.2
      · exact absurd q (by decide)
      · exact absurd q (by decide)
      · exact absurd q (by decide)
    rw [if_pos (show nI 0 = 0 from rfl)]
    exact ⟨rfl, fun z => absurd rfl z, h3, h4, h5, h6, h7, Or.inl ⟨rfl, hd⟩⟩
  · rw [if_neg (show ¬ ph = 0 from hp)]
    exact ⟨rfl, fun z => absurd rfl z, h3, h4, h5, h6, h7, Or.inl ⟨rfl, rfl⟩⟩
theorem RV.off {t f : Nat} {G : zG} {D : zMd} (h : RV t G (vw D f)) : RV t (G.1, G.2.1, G.2.2.1, G.2.2.2.1, G.2.2.2.2.1, (if G.2.2.2.2.2.1.1 = 0 then G.2.2.2.2.2.1 else pc_oend G.2.2.2.2.2.1 (nI 13)), pc_iend G.2.2.2.2.2.2.1, pc_iend G.2.2.2.2.2.2.2.1, G.2.2.2.2.2.2.2.2.1, nI 0, G.2.2.2.2.2.2.2.2.2.2.1, pc_NEVER) (vw (pm_sp1 D f) f) := by
  rw [vw_sp1]
  obtain ⟨ad0, bz, nt, o, la, ou, x0, x1, de, st0, nm, hd0⟩ := G
  obtain ⟨a1, a2, a3, a4, a5, a6, a7, a8, a9⟩ := h
  exact ⟨a1, a2, rfl, a4, a5, Or.inl ⟨rfl, rfl⟩, RO.off a7, RS.ends a8, a9⟩
