/-! The outgoing session's timer, sending, control frames. -/
def pm_nxt (D : zMd) (f : Nat) : zMd := match D with
  | (t, fr, lo, I, J) => (t, fr, lo, up2 (up2 I 15 f (I 15 f + nI 1)) 16 f (t + nI 50), J)
theorem outOff_eq {D : zMd} {f : Nat} : pm_outOff D f = if D.2.2.2.1 9 f ≤ nI 1 then (if (pm_putP D f (D.2.2.2.1 15 f)).2.2.2.1 15 f = pm_pk ((pm_putP D f (D.2.2.2.1 15 f)).2.2.2.1 13 f) then pm_fin (pm_putP D f (D.2.2.2.1 15 f)) f (nI 10) else pm_nxt (pm_putP D f (D.2.2.2.1 15 f)) f) else pm_fin (pm_putA D f (D.2.2.2.1 11 f) (nI 3) (D.2.2.2.1 12 f)) f (nI 11) := by
  obtain ⟨t, fr, lo, I, J⟩ := D
  rfl
theorem vw_nxt {D : zMd} {f : Nat} : vw (pm_nxt D f) f = vO (D.2.2.2.1 9 f, D.2.2.2.1 10 f, D.2.2.2.1 11 f, D.2.2.2.1 12 f, D.2.2.2.1 13 f, D.2.2.2.2 14 f, D.2.2.2.1 15 f + nI 1, D.1 + nI 50) (vw D f) := by
  obtain ⟨t, fr, lo, I, J⟩ := D
  simp [vw, vwI, slv, up2_r, vO, pm_nxt]
theorem fr_nxt {D : zMd} {f : Nat} : Fr f D (pm_nxt D f) := by
  obtain ⟨t, fr, lo, I, J⟩ := D
  exact ⟨rfl, FrI.up rfl (FrI.up rfl FrI.rf), FrJ.rf⟩
theorem bw_nxt {D : zMd} {f : Nat} : bwE D (pm_nxt D f) := by
  obtain ⟨t, fr, lo, I, J⟩ := D
  refine ⟨rfl, rfl, rfl, ?_, ?_, rfl⟩
  · simp (disch := decide) only [pm_nxt, up2_row]
  · simp (disch := decide) only [pm_nxt, up2_row]
theorem sim_ooff {t f : Nat} {B : zB} {G : zG} {D : zMd} (hf : f < 5) (hB : RB t B D) (h : RV t G (vw D f)) (hp : ¬ G.2.2.2.2.2.1.1 = nI 0) : SIM t f D ((pc_ogoOff B (nI f) G.1 G.2.2.2.2.2.1).1, pf_setOu G (pc_ogoOff B (nI f) G.1 G.2.2.2.2.2.1).2) (pm_outOff D f) := by
  have hr := RV.ro h
  have hsr0 : ∀ h2 : G.2.2.2.2.2.2.2.2.2.1 = nI 2, _ := fun h2 => RV.src2 h h2
  have hn : B.2.2.2.2.2 = lN t := hB.1
  have ht' : D.1 = nI t := hB.2.1
  generalize hst : G.2.2.2.2.2.2.2.2.2.1 = st at *
  generalize hou : G.2.2.2.2.2.1 = ou at *
  obtain ⟨ph, re, tg, gp, si, se, nx, du⟩ := ou
  obtain ⟨h1, h2, h3, h4, h5, h6, h7, h8⟩ := hr
  have hp : ¬ ph = nI 0 := hp
  have h8' : st = nI 2 ∧ D.2.2.2.1 15 f = nx ∧ tm t du (D.2.2.2.1 16 f) ∧ ROK ph tg gp si nx := by
    rcases h8 with ⟨q, -⟩ | q
    · exact absurd q hp
    · exact q
  obtain ⟨hst2, h15, -, hg, hz, hq⟩ := h8'
  subst hst2
  obtain ⟨a0, ha0, ea, hsr, -⟩ := hsr0 rfl
  obtain ⟨g, hg, rfl⟩ := hg
  obtain ⟨z, k, hz1, hz2, rfl, hk1, hk2, rfl⟩ := hz
  rw [ea, outOff_eq]
  rcases hq with ⟨q1, q2⟩ | ⟨q1, b, hb, rfl⟩
  · have c9 : D.2.2.2.1 9 f ≤ nI 1 := by
      rw [h1, q1]
      decide
    rw [if_pos c9, h15]
    have hP := sim_putP (k := k) (ou := (ph, re, tg, (nI g), (nI z), se, (nI k), du)) hB hf hsr (by omega) (g := 255) (by decide) q2 h3 h5 h6 (by omega)
    have hI : ∀ c, c ≠ 6 → c ≠ 8 → ∀ j, (pm_putP D f (nI k)).2.2.2.1 c j = D.2.2.2.1 c j := fun c h6 h8 j => pm_putP_I h6 h8 j
    have hJ : ∀ j, (pm_putP D f (nI k)).2.2.2.2 14 j = D.2.2.2.2 14 j := fun j => by rw [putP_eq]; exact pm_put_J (by decide) j
    have hv : vw (pm_putP D f (nI k)) f = vw D f := by rw [putP_eq]; exact vw_put
    have hfr : Fr f D (pm_putP D f (nI k)) := by rw [putP_eq]; exact fr_put
    have ht1 : (pm_putP D f (nI k)).1 = nI t := by rw [putP_eq, pm_put_t]; exact ht'
    have hnw : (pc_sendPkt B (nI f) (nI a0) (ph, re, tg, (nI g), (nI z), se, (nI k), du) (nI k)).2.2.2.2.2 = lN t := by
      rw [← hn]
      exact pc_put_now
    rw [hI 15 (by decide) (by decide), hI 13 (by decide) (by decide), h15, h5, (pk_n z (by omega)).2]
    have eC : pc_ogoOff B (nI f) (nI a0) (ph, re, tg, (nI g), (nI z), se, (nI k), du) = if nI k + nI 1 ≤ pc_pk (nI z) then (pc_sendPkt B (nI f) (nI a0) (ph, re, tg, (nI g), (nI z), se, (nI k), du) (nI k), (ph, re, tg, (nI g), (nI z), se, nI k + nI 1, (pc_sendPkt B (nI f) (nI a0) (ph, re, tg, (nI g), (nI z), se, (nI k), du) (nI k)).2.2.2.2.2 + lN 50)) else (pc_sendPkt B (nI f) (nI a0) (ph, re, tg, (nI g), (nI z), se, (nI k), du) (nI k), pc_oend (ph, re, tg, (nI g), (nI z), se, nI k + nI 1, du) (nI 10)) := by
      unfold pc_ogoOff
      rw [if_pos q1]
      rfl
    by_cases hl : k = (z + 6) / 7
    · have eC2 : pc_ogoOff B (nI f) (nI a0) (ph, re, tg, (nI g), (nI z), se, (nI k), du) = (pc_sendPkt B (nI f) (nI a0) (ph, re, tg, (nI g), (nI z), se, (nI k), du) (nI k), pc_oend (ph, re, tg, (nI g), (nI z), se, nI k + nI 1, du) (nI 10)) := by
        rw [eC, if_neg]
        rw [(pk_n z (by omega)).1, nI_add]
        exact nI_ge (by omega) (by omega)
      rw [if_pos (by rw [← hl]), eC2]
      refine ⟨hP.mod bw_fin, hfr.tr fr_fin, ?_⟩
      rw [vw_fin, hv]
      refine RV.ou h ?_
      rw [hst, hI 11 (by decide) (by decide), hI 12 (by decide) (by decide), hI 13 (by decide) (by decide), hJ]
      exact ⟨rfl, fun _ => rfl, h3, h4, h5, h6, h7, Or.inl ⟨rfl, rfl⟩⟩
    · have eC2 : pc_ogoOff B (nI f) (nI a0) (ph, re, tg, (nI g), (nI z), se, (nI k), du) = (pc_sendPkt B (nI f) (nI a0) (ph, re, tg, (nI g), (nI z), se, (nI k), du) (nI k), (ph, re, tg, (nI g), (nI z), se, nI (k + 1), lN (t + 50))) := by
        rw [eC, if_pos, hnw, lN_add, nI_add]
        rw [(pk_n z (by omega)).1, nI_add]
        exact nI_le (by omega) (by omega)
      rw [if_neg (fun q => hl ((nI_eq (by omega) (by omega)).mp q)), eC2]
      refine ⟨hP.mod bw_nxt, hfr.tr fr_nxt, ?_⟩
      rw [vw_nxt, hv]
      refine RV.ou h ?_
      rw [hst, hI 9 (by decide) (by decide), hI 10 (by decide) (by decide), hI 11 (by decide) (by decide), hI 12 (by decide) (by decide), hI 13 (by decide) (by decide), hI 15 (by decide) (by decide), hJ, ht1, h15, nI_add, nI_add]
      exact ⟨h1, h2, h3, h4, h5, h6, h7, Or.inr ⟨rfl, rfl, ⟨t + 50, by omega, by omega, rfl, rfl⟩, ⟨g, hg, rfl⟩, ⟨z, k + 1, hz1, hz2, rfl, by omega, by omega, rfl⟩, Or.inl ⟨q1, q2⟩⟩⟩
  · have c9 : ¬ D.2.2.2.1 9 f ≤ nI 1 := by
      rw [h1]
      rcases q1 with q1 | q1 <;> rw [q1] <;> decide
    rw [if_neg c9]
    have eC : pc_ogoOff B (nI f) (nI a0) (ph, re, nI b, (nI g), (nI z), se, (nI k), du) = (pc_put B (nI f) (nI a0) (nI 485228544) (nI b) (pc_abt (nI 3) (nI g)), pc_oend (ph, re, nI b, (nI g), (nI z), se, (nI k), du) (nI 11)) := by
      unfold pc_ogoOff
      rw [if_neg]
      show ¬ ph = nI 1
      rcases q1 with q1 | q1 <;> rw [q1] <;> decide
    rw [eC, h3, h4]
    have hA := sim_abt (re := 3) hB hf hsr ha0 hb (by decide) (show g < 16777216 by omega)
    refine ⟨hA.mod bw_fin, (show Fr f D (pm_putA D f (nI b) (nI 3) (nI g)) from fr_put).tr fr_fin, ?_⟩
    have hI : ∀ c, c ≠ 6 → c ≠ 8 → ∀ j, (pm_putA D f (nI b) (nI 3) (nI g)).2.2.2.1 c j = D.2.2.2.1 c j := fun c h6 h8 j => pm_put_I h6 h8 j
    have hJ : ∀ j, (pm_putA D f (nI b) (nI 3) (nI g)).2.2.2.2 14 j = D.2.2.2.2 14 j := fun j => pm_put_J (by decide) j
    rw [vw_fin, show vw (pm_putA D f (nI b) (nI 3) (nI g)) f = vw D f from vw_put]
    refine RV.ou h ?_
    rw [hst, hI 11 (by decide) (by decide), hI 12 (by decide) (by decide), hI 13 (by decide) (by decide), hJ]
    exact ⟨rfl, fun _ => rfl, h3, h4, h5, h6, h7, Or.inl ⟨rfl, rfl⟩⟩
/-- sending begins -/
def pm_snd1 (D : zMd) (f : Nat) (ph tg gr si : Int32) (se : Int64) (w : Int32) : zMd := match D with
  | (t, fr, lo, I, J) => (t, fr, lo, up2 (up2 (up2 (up2 (up2 (up2 I 9 f ph) 11 f tg) 12 f gr) 13 f si) 15 f (nI 1)) 16 f (t + w), up2 J 14 f se)
theorem vw_snd1 {D : zMd} {f : Nat} {ph tg gr si w : Int32} {se : Int64} : vw (pm_snd1 D f ph tg gr si se w) f = vO (ph, D.2.2.2.1 10 f, tg, gr, si, se, nI 1, D.1 + w) (vw D f) := by
  obtain ⟨t, fr, lo, I, J⟩ := D
  simp [vw, vwI, slv, up2_r, vO, pm_snd1]
theorem fr_snd1 {D : zMd} {f : Nat} {ph tg gr si w : Int32} {se : Int64} : Fr f D (pm_snd1 D f ph tg gr si se w) := by
  obtain ⟨t, fr, lo, I, J⟩ := D
  exact ⟨rfl, FrI.up rfl (FrI.up rfl (FrI.up rfl (FrI.up rfl (FrI.up rfl (FrI.up rfl FrI.rf))))), FrJ.up rfl FrJ.rf⟩
theorem bw_snd1 {D : zMd} {f : Nat} {ph tg gr si w : Int32} {se : Int64} : bwE D (pm_snd1 D f ph tg gr si se w) := by
  obtain ⟨t, fr, lo, I, J⟩ := D
  refine ⟨rfl, rfl, rfl, ?_, ?_, ?_⟩
  · simp (disch := decide) only [pm_snd1, up2_row]
  · simp (disch := decide) only [pm_snd1, up2_row]
  · simp (disch := decide) only [pm_snd1, up2_row]
theorem src_snd1 {D : zMd} {f g : Nat} {ph tg gr si w : Int32} {se : Int64} : pm_src (pm_snd1 D f ph tg gr si se w).2.2.2.1 g = pm_src D.2.2.2.1 g := by
  obtain ⟨t, fr, lo, I, J⟩ := D
  simp (disch := decide) only [pm_src, pm_snd1, up2_row]
theorem sim_send {t f b g z : Nat} {B : zB} {G : zG} {D : zMd} {se : Int64} (hf : f < 5) (hB : RB t B D) (h : RV t G (vw D f)) (h2 : G.2.2.2.2.2.2.2.2.2.1 = nI 2) (hb : b = 255 ∨ b ≤ 253) (hg : g ≤ 262143) (hz1 : 9 ≤ z) (hz2 : z ≤ 49) : SIM t f D ((pc_obegin B (nI f) G.1 G.2.2.2.2.2.1 (nI b) (nI g) (nI z) se).1, pf_setOu G (pc_obegin B (nI f) G.1 G.2.2.2.2.2.1 (nI b) (nI g) (nI z) se).2) (if nI b = nI 255 then pm_putC (pm_snd1 D f (nI 1) (nI b) (nI g) (nI z) se (nI 50)) f (nI b) (nI 32) (nI z &&& nI 255) (nI z >>> (nI 8 &&& 31)) (pm_pk (nI z)) (nI g) else pm_putC (pm_snd1 D f (nI 2) (nI b) (nI g) (nI z) se (nI 1250)) f (nI b) (nI 16) (nI z &&& nI 255) (nI z >>> (nI 8 &&& 31)) (pm_pk (nI z)) (nI g)) := by
  have hr := RV.ro h
  obtain ⟨a0, ha0, ea, hsr, -⟩ := RV.src2 h h2
  have hn : B.2.2.2.2.2 = lN t := hB.1
  have ht' : D.1 = nI t := hB.2.1
  rw [h2] at hr
  generalize hou : G.2.2.2.2.2.1 = ou at *
  obtain ⟨ph, re, tg, gp, si, se', nx, du⟩ := ou
  obtain ⟨h1, h2', h3, h4, h5, h6, h7, h8⟩ := hr
  rw [ea]
  by_cases h255 : b = 255
  · subst h255
    have eC : pc_obegin B (nI f) (nI a0) (ph, re, tg, gp, si, se', nx, du) (nI 255) (nI g) (nI z) se = (pc_put B (nI f) (nI a0) (nI 485228544) (nI 255) (pc_ext (nI 32) (nI z) (nI g)), (nI 1, re, nI 255, nI g, nI z, se, nI 1, lN (t + 50))) := by
      unfold pc_obegin
      simp only
      rw [if_pos trivial, now_add hn]
    rw [eC, if_pos rfl]
    have hE := sim_ext (k := 32) (hB.mod (bw_snd1 (f := f) (ph := nI 1) (tg := nI 255) (gr := nI g) (si := nI z) (se := se) (w := nI 50))) hf (by rw [src_snd1]; exact hsr) ha0 (by decide : (255 : Nat) ≤ 255) (by decide) hz2 (show g < 16777216 by omega) (Or.inl ⟨rfl, ct_1 (by decide) (by omega) (by decide) (by omega) (by omega), ct_sz (by decide) hz1 hz2 (by omega) (by omega)⟩)
    refine ⟨hE, fr_snd1.tr fr_put, ?_⟩
    show RV t _ (vw (pm_put _ _ _ _ _ _) f)
    rw [vw_put, vw_snd1]
    refine RV.ou h ?_
    rw [h2, ht', nI_add]
    exact ⟨rfl, fun _ => h2' (by decide), rfl, rfl, rfl, rfl, ⟨z, hz2, rfl⟩, Or.inr ⟨rfl, rfl, ⟨t + 50, by omega, by omega, rfl, rfl⟩, ⟨g, hg, rfl⟩, ⟨z, 1, hz1, hz2, rfl, by omega, by omega, rfl⟩, Or.inl ⟨rfl, rfl⟩⟩⟩
  · have hb' : b ≤ 253 := by omega
    have hne : ¬ nI b = nI 255 := fun q => h255 ((nI_eq (by omega) (by decide)).mp q)
    have eC : pc_obegin B (nI f) (nI a0) (ph, re, tg, gp, si, se', nx, du) (nI b) (nI g) (nI z) se = (pc_put B (nI f) (nI a0) (nI 485228544) (nI b) (pc_ext (nI 16) (nI z) (nI g)), (nI 2, re, nI b, nI g, nI z, se, nI 1, lN (t + 1250))) := by
      unfold pc_obegin
      simp only
      rw [if_neg hne, now_add hn]
    rw [eC, if_neg hne]
    have hE := sim_ext (k := 16) (tg := b) (hB.mod (bw_snd1 (f := f) (ph := nI 2) (tg := nI b) (gr := nI g) (si := nI z) (se := se) (w := nI 1250))) hf (by rw [src_snd1]; exact hsr) ha0 (by omega) (by decide) hz2 (show g < 16777216 by omega) (Or.inr ⟨hb', Or.inl ⟨ct_1 (by decide) (by omega) (by decide) (by omega) (by omega), ct_sz (by decide) hz1 hz2 (by omega) (by omega)⟩⟩)
    refine ⟨hE, fr_snd1.tr fr_put, ?_⟩
    show RV t _ (vw (pm_put _ _ _ _ _ _) f)
    rw [vw_put, vw_snd1]
    refine RV.ou h ?_
    rw [h2, ht', nI_add]
    exact ⟨rfl, fun _ => h2' (by decide), rfl, rfl, rfl, rfl, ⟨z, hz2, rfl⟩, Or.inr ⟨rfl, rfl, ⟨t + 1250, by omega, by omega, rfl, rfl⟩, ⟨g, hg, rfl⟩, ⟨z, 1, hz1, hz2, rfl, by omega, by omega, rfl⟩, Or.inr ⟨Or.inl rfl, b, hb', rfl⟩⟩⟩
/-- control frames -/
theorem ctl_eq {B : zB} {n : Int32} {G : zG} {s : Int32} {d : Int64} : pf_control B n G s d = if pc_fb d (nI 1) = nI 16 then pf_opening B n G s (pf_group d) d false
    else if pc_fb d (nI 1) = nI 32 then pf_opening B n G s (pf_group d) d true
    else if pc_fb d (nI 1) = nI 17 ∧ pc_isWith G.2.2.2.2.2.1 s (pf_group d) = true then
      ((pc_takeGrant B n G.1 G.2.2.2.2.2.1 (pc_fb d (nI 2)).toNatClampNeg (pc_fb d (nI 3)).toNatClampNeg (pc_pk G.2.2.2.2.2.1.2.2.2.2.1).toNatClampNeg).1, pf_setOu G (pc_takeGrant B n G.1 G.2.2.2.2.2.1 (pc_fb d (nI 2)).toNatClampNeg (pc_fb d (nI 3)).toNatClampNeg (pc_pk G.2.2.2.2.2.1.2.2.2.2.1).toNatClampNeg).2)
    else if pc_fb d (nI 1) = nI 19 ∧ pc_isWith G.2.2.2.2.2.1 s (pf_group d) = true then (B, pf_setOu G (pc_oend G.2.2.2.2.2.1 (nI 10)))
    else if pc_fb d (nI 1) = nI 255 then
      if pc_isWith G.2.2.2.2.2.1 s (pf_group d) = true then (B, pf_abort (pf_setOu G (pc_oend G.2.2.2.2.2.1 (nI 20 + pc_fb d (nI 2)))) s (pf_group d)) else (B, pf_abort G s (pf_group d))
    else (B, G) := by
  obtain ⟨ad, bz, nt, o, la, ou, x0, x1, de, st, nm, hd⟩ := G
  rfl
theorem ses_setOu {G : zG} {ou : zOu} (r : Nat) : gses r (pf_setOu G ou) = gses r G ∧ gpl r (pf_setOu G ou) = gpl r G := by
  obtain ⟨ad, bz, nt, o, la, ou', x0, x1, de, st, nm, hd⟩ := G
  exact ⟨rfl, rfl⟩
theorem RV.si {t f : Nat} {G : zG} {D : zMd} (h : RV t G (vw D f)) : ∃ z, z ≤ 49 ∧ D.2.2.2.1 13 f = nI z ∧ G.2.2.2.2.2.1.2.2.2.2.1 = nI z := by
  have hr := RV.ro h
  generalize G.2.2.2.2.2.1 = ou at *
  obtain ⟨ph, re, tg, gp, si, se, nx, du⟩ := ou
  obtain ⟨h1, h2, h3, h4, h5, h6, ⟨z, hz, ez⟩, h8⟩ := hr
  exact ⟨z, hz, h5.trans ez, ez⟩
theorem sim_control {t f a' tg : Nat} {B : zB} {G : zG} {D : zMd} {d : Int64} (hf : f < 5) (hB : RB t B D) (h : RV t G (vw D f)) (h2 : G.2.2.2.2.2.2.2.2.2.1 = nI 2) (ha' : a' ≤ 253) (hct : CT tg d) : SIM t f D (pf_control B (nI f) G (nI a') d) (pm_control D f (oc (gses 0 G) + oc (gses 1 G)) (nI tg) (nI a') d) := by
  obtain ⟨g, hg, eg⟩ := fb_gl d
  obtain ⟨v2, hv2, e2⟩ := fb_lt d (k := 2) (by decide) (by decide)
  obtain ⟨v3, hv3, e3⟩ := fb_lt d (k := 3) (by decide) (by decide)
  obtain ⟨z, hz, ez1, ez2⟩ := RV.si h
  have hid : SIM t f D (B, G) D := ⟨hB, Fr.rf, h⟩
  have hof : ∀ tb, SZ d → SIM t f D (pf_opening B (nI f) G (nI a') (nI g) d tb) (pm_opened D f (oc (gses 0 G) + oc (gses 1 G)) (nI a') (pm_fb2 d + nI 256 * pm_fb3 d) (nI g) (zb tb)) := fun tb hs => sim_opening hf hB h h2 ha' hg hs
  have hfin : ∀ how, SIM t f D (B, pf_setOu G (pc_oend G.2.2.2.2.2.1 how)) (pm_fin D f how) := fun how => sim_fin hB h
  have eA : pm_ans D.2.2.2.1 f (nI a') (nI g) = pc_isWith G.2.2.2.2.2.1 (nI a') (nI g) := with_eq h
  have hab : SIM t f D (B, pf_abort G (nI a') (nI g)) (pm_abS D f (pm_findK D.2.2.2.1 (nI a') (nI 0) (oc (gses 0 G) + oc (gses 1 G)) (2 * f)) (nI g)) := by
    rw [show nI 0 = zb false from rfl, find_n h (nI a') false]
    exact sim_abort hf hB h
  have hab2 : ∀ how, SIM t f D (B, pf_abort (pf_setOu G (pc_oend G.2.2.2.2.2.1 how)) (nI a') (nI g)) (pm_abS (pm_fin D f how) f (pm_findK D.2.2.2.1 (nI a') (nI 0) (oc (gses 0 G) + oc (gses 1 G)) (2 * f)) (nI g)) := by
    intro how
    have h0 := hfin how
    have h1 := sim_abort (src := nI a') (g := nI g) hf h0.1 h0.2.2
    rw [(ses_setOu 0).1, (ses_setOu 1).1, (ses_setOu 0).2, (ses_setOu 1).2] at h1
    rw [show nI 0 = zb false from rfl, find_n h (nI a') false]
    exact h0.tr h1
  have hgr : pc_isWith G.2.2.2.2.2.1 (nI a') (nI g) = true → SIM t f D ((pc_takeGrant B (nI f) G.1 G.2.2.2.2.2.1 v2 v3 ((z + 6) / 7)).1, pf_setOu G (pc_takeGrant B (nI f) G.1 G.2.2.2.2.2.1 v2 v3 ((z + 6) / 7)).2) (pm_granted D f v2 v3 ((z + 6) / 7)) := fun hw => sim_granted hf hB h hw (by omega) hv2 hv3
  rw [ctl_eq]
  unfold pm_control
  have c2 : (pm_fb2 d).toNatClampNeg = v2 := by rw [fb_2, e2]; exact nI_clamp (by omega)
  have c3 : (pm_fb3 d).toNatClampNeg = v3 := by rw [fb_3, e3]; exact nI_clamp (by omega)
  have k2 : (pc_fb d (nI 2)).toNatClampNeg = v2 := by rw [e2]; exact nI_clamp (by omega)
  have k3 : (pc_fb d (nI 3)).toNatClampNeg = v3 := by rw [e3]; exact nI_clamp (by omega)
  have c4 : (pm_pk (D.2.2.2.1 13 f)).toNatClampNeg = (z + 6) / 7 := by rw [ez1, (pk_n z (by omega)).2]; exact nI_clamp (by omega)
  have c5 : (pc_pk G.2.2.2.2.2.1.2.2.2.2.1).toNatClampNeg = (z + 6) / 7 := by rw [ez2, (pk_n z (by omega)).1]; exact nI_clamp (by omega)
  rw [fb_1 d, fb_g d, eg, eA, c2, c3, k2, k3, c4, c5]
  rcases hct with ⟨rfl, hk, hs⟩ | ⟨ht, ⟨hk, hs⟩ | hk | hk | hk⟩
  · have hk : pc_fb d (nI 1) = nI 32 := hk
    rw [hk, if_neg (by decide), if_pos rfl, if_pos rfl, if_pos rfl]
    exact hof true hs
  all_goals
    have hne : ¬ nI tg = nI 255 := fun q => absurd ((nI_eq (by omega) (by decide)).mp q) (by omega)
    rw [if_neg hne]
  · have hk : pc_fb d (nI 1) = nI 16 := hk
    rw [hk, if_pos rfl, if_pos rfl]
    exact hof false hs
  · have hk : pc_fb d (nI 1) = nI 17 := hk
    have n1 : ¬ nI 17 = nI 16 := by decide
    have n2 : ¬ nI 17 = nI 32 := by decide
    have n3 : ¬ nI 17 = nI 255 := by decide
    have n4 : ¬ (nI 17 = nI 19 ∧ pc_isWith G.2.2.2.2.2.1 (nI a') (nI g) = true) := fun q => absurd q.1 (by decide)
    rw [hk, if_neg n1, if_neg n2, if_neg n1]
    by_cases hw : pc_isWith G.2.2.2.2.2.1 (nI a') (nI g) = true
    · have y : nI 17 = nI 17 ∧ pc_isWith G.2.2.2.2.2.1 (nI a') (nI g) = true := ⟨rfl, hw⟩
      rw [if_pos y, if_pos y]
      exact hgr hw
    · have y : ¬ (nI 17 = nI 17 ∧ pc_isWith G.2.2.2.2.2.1 (nI a') (nI g) = true) := fun q => hw q.2
      rw [if_neg y, if_neg n4, if_neg n3, if_neg y, if_neg n4, if_neg n3]
      exact hid
  · have hk : pc_fb d (nI 1) = nI 19 := hk
    have n1 : ¬ nI 19 = nI 16 := by decide
    have n2 : ¬ nI 19 = nI 32 := by decide
    have n3 : ¬ nI 19 = nI 255 := by decide
    have n4 : ¬ (nI 19 = nI 17 ∧ pc_isWith G.2.2.2.2.2.1 (nI a') (nI g) = true) := fun q => absurd q.1 (by decide)
    rw [hk, if_neg n1, if_neg n2, if_neg n1, if_neg n4, if_neg n4]
    by_cases hw : pc_isWith G.2.2.2.2.2.1 (nI a') (nI g) = true
    · have y : nI 19 = nI 19 ∧ pc_isWith G.2.2.2.2.2.1 (nI a') (nI g) = true := ⟨rfl, hw⟩
      rw [if_pos y, if_pos y]
      exact hfin _
    · have y : ¬ (nI 19 = nI 19 ∧ pc_isWith G.2.2.2.2.2.1 (nI a') (nI g) = true) := fun q => hw q.2
      rw [if_neg y, if_neg n3, if_neg y, if_neg n3]
      exact hid
  · have hk : pc_fb d (nI 1) = nI 255 := hk
    have n1 : ¬ nI 255 = nI 16 := by decide
    have n2 : ¬ nI 255 = nI 32 := by decide
    have n3 : nI 255 = nI 255 := rfl
    have n4 : ¬ (nI 255 = nI 17 ∧ pc_isWith G.2.2.2.2.2.1 (nI a') (nI g) = true) := fun q => absurd q.1 (by decide)
    have n5 : ¬ (nI 255 = nI 19 ∧ pc_isWith G.2.2.2.2.2.1 (nI a') (nI g) = true) := fun q => absurd q.1 (by decide)
    rw [hk, if_neg n1, if_neg n2, if_neg n1, if_neg n4, if_neg n4, if_neg n5, if_neg n5, if_pos n3, if_pos n3]
    by_cases hw : pc_isWith G.2.2.2.2.2.1 (nI a') (nI g) = true
    · rw [if_pos hw, if_pos hw, fb_2]
      exact hab2 _
    · rw [if_neg hw, if_neg hw]
      exact hab
