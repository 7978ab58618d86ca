/-! What happens to one session, in both systems. -/
/-- a session x of f at the slot c has come to x', the bus to B', the reference from D to D' -/
def SRES (t f c : Nat) (x : zIn) (D : zMd) (B' : zB) (x' : zIn) (D' : zMd) : Prop := RB t B' D' ∧ Fr f D D' ∧ x'.2.2.2.1 ≤ 8 ∧ ((∃ s', SS t x' s' ∧ x'.1.2.1 = x.1.2.1 ∧ x'.1.2.2.2.2 = x.1.2.2.2.2 ∧ vw D' f = vset c s' (vw D f)) ∨ (x'.2.1 = false ∧ x'.2.2.2.2.2.2 = pc_NEVER ∧ ∃ s', vw D' f = vclose c (vset c s' (vw D f))))
theorem RV.res {t f r : Nat} {G : zG} {D D' : zMd} {B' : zB} {x' : zIn} (h : RV t G (vw D f)) (ho : (gses r G).2.1 = true) (hs : SRES t f (gpl r G) (gses r G) D B' x' D') : RV t (gset r x' G) (vw D' f) := by
  obtain ⟨-, -, h8, ⟨s', h1, h2, h3, h4⟩ | ⟨h1, h2, s', h3⟩⟩ := hs
  · rw [h4]
    exact RV.set h ho h1 h2 h3 h8
  · rw [h3]
    exact RV.fin h ho h1 h2 h8
theorem now_add {t k : Nat} {B : zB} {num ad head tgt : Int32} {d : Int64} (h : B.2.2.2.2.2 = lN t) : (pc_put B num ad head tgt d).2.2.2.2.2 + lN k = lN (t + k) := by
  rw [pc_put_now, h, lN_add]
theorem sim_ctl {t f a tg g k x2 x3 x4 : Nat} {B : zB} {D : zMd} (h : RB t B D) (hf : f < 5) (hsr : pm_src D.2.2.2.1 f = nI a) (ha : a ≤ 253) (ht : tg ≤ 255) (hk : k < 256) (h2 : x2 < 256) (h3 : x3 < 256) (h4 : x4 < 256) (hg : g < 16777216) (hw : CT tg (lN (ctN k x2 x3 x4 g))) : RB t (pc_put B (nI f) (nI a) (nI 485228544) (nI tg) (pc_ctl (nI k) (nI x2) (nI x3) (nI x4) (nI g))) (pm_putC D f (nI tg) (nI k) (nI x2) (nI x3) (nI x4) (nI g)) := by
  have e1 := pc_ctl_n hk h2 h3 h4 hg
  have e2 := pm_ctl_n hk h2 h3 h4 hg
  unfold pm_putC
  rw [e1, e2]
  exact RB.put (pr := 7) (fm := 236) h hf rfl hsr (by omega) rfl (by omega) (by decide) (by decide) rfl (Or.inr (Or.inr (Or.inr ⟨rfl, ha, hw⟩)))
theorem sim_abt {t f a tg g re : Nat} {B : zB} {D : zMd} (h : RB t B D) (hf : f < 5) (hsr : pm_src D.2.2.2.1 f = nI a) (ha : a ≤ 253) (ht : tg ≤ 253) (hre : re < 256) (hg : g < 16777216) : RB t (pc_put B (nI f) (nI a) (nI 485228544) (nI tg) (pc_abt (nI re) (nI g))) (pm_putA D f (nI tg) (nI re) (nI g)) :=
  sim_ctl h hf hsr ha (by omega) (by decide) hre (by decide) (by decide) hg (Or.inr ⟨ht, Or.inr (Or.inr (Or.inr (ct_1 (by decide) hre (by decide) (by decide) hg)))⟩)
theorem sim_ext {t f a tg g k z : Nat} {B : zB} {D : zMd} (h : RB t B D) (hf : f < 5) (hsr : pm_src D.2.2.2.1 f = nI a) (ha : a ≤ 253) (ht : tg ≤ 255) (hk : k < 256) (hz : z ≤ 49) (hg : g < 16777216) (hw : CT tg (lN (ctN k z 0 ((z + 6) / 7) g))) : RB t (pc_put B (nI f) (nI a) (nI 485228544) (nI tg) (pc_ext (nI k) (nI z) (nI g))) (pm_putC D f (nI tg) (nI k) (nI z &&& nI 255) (nI z >>> (nI 8 &&& 31)) (pm_pk (nI z)) (nI g)) := by
  unfold pc_ext
  rw [(sz_n z (by omega)).1, (sz_n z (by omega)).2, (pk_n z (by omega)).1, (pk_n z (by omega)).2]
  exact sim_ctl h hf hsr ha ht hk (by omega) (by decide) (by omega) hg hw
theorem ct_sz {k z c g : Nat} (hk : k < 256) (h9 : 9 ≤ z) (hz : z ≤ 49) (hc : c < 256) (hg : g < 16777216) : SZ (lN (ctN k z 0 c g)) := ⟨z, h9, hz, by rw [ct_2 hk (by omega) (by decide) hc hg, ct_3 hk (by omega) (by decide) hc hg]; rw [sl8 0 (by decide), nI_add]; rfl⟩
set_option maxHeartbeats 1000000 in
theorem sim_grant {t f a c : Nat} {B : zB} {D : zMd} {bz : Bool} {x : zIn} (hB : RB t B D) (hf : f < 5) (hsr : pm_src D.2.2.2.1 f = nI a) (ha : a ≤ 253) (hbz : D.2.2.2.1 3 f = zb bz) (hc : c < 2) (hS : SS0 x (slv D.2.2.2.1 (2 * f + c))) (hta : x.1.2.2.2.2 = false) : SRES t f c x D (pc_grant B (nI f) (nI a) bz x).1 (pc_grant B (nI f) (nI a) bz x).2 (pm_grant D f (2 * f + c)) := by
  have hv := vw_grant (D := D) (f := f) hc
  have hfr := fr_grant (D := D) (f := f) hc
  obtain ⟨⟨pk, so, gr, si, ta⟩, op, he, ex, lt, ak, du⟩ := x
  obtain ⟨t', fr, lo, I, J⟩ := D
  obtain ⟨h1, h2, h3, h4, h5, h6, h7, ⟨a', ha', e1⟩, ⟨g, hg, e2⟩, ⟨z, hz1, hz2, e3, hx1, hx2⟩, hby⟩ := hS
  have h1 : op = true := h1
  have hta : ta = false := hta
  have h2 : I 18 (2 * f + c) = zb ta := h2
  have h3 : I 19 (2 * f + c) = so := h3
  have h4 : I 20 (2 * f + c) = gr := h4
  have h5 : I 21 (2 * f + c) = si := h5
  have h6 : I 22 (2 * f + c) = nI ex := h6
  have h7 : I 24 (2 * f + c) = ak := h7
  have hbz : I 3 f = zb bz := hbz
  have hsr : pm_src I f = nI a := hsr
  subst h1 hta e1 e2 e3
  have hn : B.2.2.2.2.2 = lN t := hB.1
  have ht' : t' = nI t := hB.2.1
  have hm : ∃ m : Nat, m ≤ 3 ∧ gM (I 3 f) (I 21 (2 * f + c)) (I 22 (2 * f + c)) = nI m ∧ ((bz = true ∧ m = 0) ∨ (bz = false ∧ 1 ≤ m ∧ (if pc_pk (nI z) - nI ex + nI 1 < nI 3 then pc_pk (nI z) - nI ex + nI 1 else nI 3) = nI m)) := by
    rw [h5, h6, hbz]
    unfold gM
    cases bz with
    | true => exact ⟨0, by decide, by rw [if_neg (by decide)], Or.inl ⟨rfl, rfl⟩⟩
    | false =>
      rw [if_pos (by decide), (pk_n z (by omega)).1, (pk_n z (by omega)).2, nI_sub hx2, nI_add]
      by_cases hl : (z + 6) / 7 - ex + 1 < 3
      · have q1 : ¬ nI 3 ≤ nI ((z + 6) / 7 - ex + 1) := nI_ge hl (by decide)
        have q2 : nI ((z + 6) / 7 - ex + 1) < nI 3 := nI_lt hl (by decide)
        exact ⟨(z + 6) / 7 - ex + 1, by omega, by rw [if_neg q1], Or.inr ⟨rfl, by omega, by rw [if_pos q2]⟩⟩
      · have q1 : nI 3 ≤ nI ((z + 6) / 7 - ex + 1) := nI_le (by omega) (by omega)
        have q2 : ¬ nI ((z + 6) / 7 - ex + 1) < nI 3 := nI_nlt (by omega) (by omega)
        exact ⟨3, by decide, by rw [if_pos q1], Or.inr ⟨rfl, by decide, by rw [if_neg q2]⟩⟩
  obtain ⟨m, hm3, hgm, hcs⟩ := hm
  have hput : RB t (pc_put B (nI f) (nI a) (nI 485228544) (nI a') (pc_ctl (nI 17) (nI m) (nI ex) (nI 255) (nI g))) (pm_grant (t', fr, lo, I, J) f (2 * f + c)) := by
    unfold pm_grant
    simp only
    rw [show pm_grM I f (2 * f + c) = nI m from hgm, h3, h4, h6]
    refine sim_ctl (RB.mod hB ?_) hf ?_ ha (by omega) (by decide) (by omega) (by omega) (by decide) hg (Or.inr ⟨ha', Or.inr (Or.inl (ct_1 (by decide) (by omega) (by omega) (by decide) hg))⟩)
    · exact ⟨rfl, rfl, rfl, by simp only [up2_row _ _ _ (show (6:Nat) ≠ 26 by decide), up2_row _ _ _ (show (6:Nat) ≠ 23 by decide), up2_row _ _ _ (show (6:Nat) ≠ 25 by decide)], by simp only [up2_row _ _ _ (show (8:Nat) ≠ 26 by decide), up2_row _ _ _ (show (8:Nat) ≠ 23 by decide), up2_row _ _ _ (show (8:Nat) ≠ 25 by decide)], rfl⟩
    · show pm_src _ f = nI a
      rw [← hsr]
      unfold pm_src
      simp [up2_r]
  have hs' : ∀ (he' : Bool) (lt' : Int32) (du' : Int64), he' = decide (m = 0) → lt' = nI ex + nI m - nI 1 → du' = lN (t + (if m = 0 then 500 else 1250)) → SS t ((pk, nI a', nI g, nI z, false), true, he', ex, lt', ak, du') (sgr t' (I 3 f) (slv I (2 * f + c))) := by
    intro he' lt' du' q1 q2 q3
    have ez : (nI m = 0) ↔ m = 0 := by
      constructor
      · intro q
        exact (nI_eq (by omega) (by decide)).mp q
      · intro q
        subst q
        rfl
    refine ⟨⟨rfl, h2, h3, h4, h5, h6, h7, ⟨a', ha', rfl⟩, ⟨g, hg, rfl⟩, ⟨z, hz1, hz2, rfl, hx1, hx2⟩, hby⟩, fun _ => ⟨?_, ?_⟩, t + (if m = 0 then 500 else 1250), ?_, ?_, q3, ?_⟩
    · show I 22 (2 * f + c) + gM (I 3 f) (I 21 (2 * f + c)) (I 22 (2 * f + c)) - nI 1 = lt'
      rw [hgm, h6, q2]
    · show vp_nar .boolean (if gM (I 3 f) (I 21 (2 * f + c)) (I 22 (2 * f + c)) = 0 then nI 1 else nI 0) = zb he'
      rw [hgm, q1]
      by_cases hm0 : m = 0
      · rw [if_pos (ez.mpr hm0), decide_eq_true hm0]
        exact nar_zb true
      · rw [if_neg (fun q => hm0 (ez.mp q)), decide_eq_false hm0]
        exact nar_zb false
    · exact Nat.le_add_right _ _
    · split <;> omega
    · show t' + (if gM (I 3 f) (I 21 (2 * f + c)) (I 22 (2 * f + c)) = 0 then nI 500 else nI 1250) = _
      rw [hgm, ht']
      by_cases hm0 : m = 0
      · rw [if_pos (ez.mpr hm0), if_pos hm0, nI_add]
      · rw [if_neg (fun q => hm0 (ez.mp q)), if_neg hm0, nI_add]
  rcases hcs with ⟨rfl, rfl⟩ | ⟨rfl, hm1, hcl⟩
  · refine ⟨hput, hfr, ?_, Or.inl ⟨_, hs' true _ _ rfl rfl ?_, rfl, rfl, hv⟩⟩
    · show ex ≤ 8
      omega
    · exact now_add hn
  · have e : pc_grant B (nI f) (nI a) false ((pk, nI a', nI g, nI z, false), true, he, ex, lt, ak, du) = (pc_put B (nI f) (nI a) (nI 485228544) (nI a') (pc_ctl (nI 17) (nI m) (nI ex) (nI 255) (nI g)), ((pk, nI a', nI g, nI z, false), true, false, ex, nI ex + nI m - nI 1, ak, (pc_put B (nI f) (nI a) (nI 485228544) (nI a') (pc_ctl (nI 17) (nI m) (nI ex) (nI 255) (nI g))).2.2.2.2.2 + lN 1250)) := by
      unfold pc_grant
      simp only
      rw [if_neg (by decide), hcl]
    rw [e]
    refine ⟨hput, hfr, ?_, Or.inl ⟨_, hs' false _ _ ?_ rfl ?_, rfl, rfl, hv⟩⟩
    · show ex ≤ 8
      omega
    · rw [decide_eq_false (by omega)]
    · rw [if_neg (by omega)]
      exact now_add hn
