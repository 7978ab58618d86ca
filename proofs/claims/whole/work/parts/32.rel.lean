/-! The relation of the system to the reference. -/
def tm (t : Nat) (x : Int64) (y : Int32) : Prop := ∃ u, t ≤ u ∧ u ≤ t + 1250 ∧ x = lN u ∧ y = nI u
def KD (d : Int64) (k : Nat) : Prop := pc_fb d (nI 1) = nI k
def SZ (d : Int64) : Prop := ∃ z, 9 ≤ z ∧ z ≤ 49 ∧ pc_fb d (nI 2) + (pc_fb d (nI 3) <<< (nI 8 &&& 31)) = nI z
def CT (tg : Nat) (d : Int64) : Prop := (tg = 255 ∧ KD d 32 ∧ SZ d) ∨ (tg ≤ 253 ∧ ((KD d 16 ∧ SZ d) ∨ KD d 17 ∨ KD d 19 ∨ KD d 255))
/-- a frame as these systems send it -/
def WF (id : Int32) (d : Int64) (s : Int32) : Prop := ∃ pr fm tg sr sd : Nat, pr < 8 ∧ tg < 256 ∧ sr ≤ 254 ∧ sd < 5 ∧ id = nI (idN pr fm tg sr) ∧ s = nI sd ∧ (fm = 238 ∨ fm = 234 ∨ fm = 235 ∨ (fm = 236 ∧ sr ≤ 253 ∧ CT tg d))
def RB (t : Nat) (B : zB) (D : zMd) : Prop := B.2.2.2.2.2 = lN t ∧ D.1 = nI t ∧ B.2.2.2.1 = D.2.1 ∧ D.2.1 ≤ 48 ∧ B.2.2.2.2.1 = D.2.2.1 ∧ ∀ i, i < D.2.1 → B.1 i = D.2.2.2.1 6 i ∧ B.2.1 i = D.2.2.2.2 7 i ∧ B.2.2.1 i = D.2.2.2.1 8 i ∧ WF (D.2.2.2.1 6 i) (D.2.2.2.2 7 i) (D.2.2.2.1 8 i)
theorem RB.mod {t : Nat} {B : zB} {D D' : zMd} (h : RB t B D) (e : bwE D D') : RB t B D' := by
  unfold RB
  rw [e.1, e.2.1, e.2.2.1, e.2.2.2.1, e.2.2.2.2.1, e.2.2.2.2.2]
  exact h
theorem pc_put_now {B : zB} {num ad head tgt : Int32} {d : Int64} : (pc_put B num ad head tgt d).2.2.2.2.2 = B.2.2.2.2.2 := by
  obtain ⟨ids, con, snd, cnt, ovf, now⟩ := B
  unfold pc_put
  simp only
  split <;> rfl
theorem RB.put {t f a tg pr fm : Nat} {B : zB} {D : zMd} {ad tgI : Int32} {d d' : Int64} (h : RB t B D) (hf : f < 5) (had : ad = nI a) (hsr : pm_src D.2.2.2.1 f = nI a) (ha : a ≤ 254) (htg : tgI = nI tg) (ht : tg < 256) (hp : pr < 8) (hfm : fm < 256) (hd : d = d') (hw : fm = 238 ∨ fm = 234 ∨ fm = 235 ∨ (fm = 236 ∧ a ≤ 253 ∧ CT tg d')) : RB t (pc_put B (nI f) ad (nI (pr * 67108864 + fm * 65536)) tgI d) (pm_put D f (nI pr) (nI fm) tgI d') := by
  subst had htg hd
  obtain ⟨ids, con, snd, cnt, ovf, now⟩ := B
  obtain ⟨t', fr, lo, I, J⟩ := D
  obtain ⟨h1, h2, h3, h4, h5, h6⟩ := h
  have h3 : cnt = fr := h3
  subst h3
  have h4 : cnt ≤ 48 := h4
  have hsr : pm_src I f = nI a := hsr
  by_cases g : cnt < 48
  · unfold pc_put pm_put
    simp only
    rw [if_pos g, if_neg (by omega)]
    refine ⟨h1, h2, rfl, g, h5, fun i hi => ?_⟩
    have hi : i < cnt + 1 := hi
    have e8 : up2 (up2 I 6 cnt (pm_id (nI pr) (nI fm) (nI tg) (pm_src I f))) 8 cnt (nI f) 8 i = if i = cnt then nI f else I 8 i := by simp [up2_r]
    have e6 : up2 (up2 I 6 cnt (pm_id (nI pr) (nI fm) (nI tg) (pm_src I f))) 8 cnt (nI f) 6 i = if i = cnt then pm_id (nI pr) (nI fm) (nI tg) (pm_src I f) else I 6 i := by simp [up2_r]
    have e7 : up2 J 7 cnt d 7 i = if i = cnt then d else J 7 i := by simp [up2_r]
    show upd ids cnt _ i = up2 (up2 I 6 cnt _) 8 cnt (nI f) 6 i ∧ vp_updL con cnt d i = up2 J 7 cnt d 7 i ∧ upd snd cnt (nI f) i = up2 (up2 I 6 cnt _) 8 cnt (nI f) 8 i ∧ WF (up2 (up2 I 6 cnt _) 8 cnt (nI f) 6 i) (up2 J 7 cnt d 7 i) (up2 (up2 I 6 cnt _) 8 cnt (nI f) 8 i)
    rw [e8, e6, e7]
    by_cases e : i = cnt
    · subst e
      have eid : nI (pr * 67108864 + fm * 65536) + (nI tg <<< (nI 8 &&& 31)) + nI a = pm_id (nI pr) (nI fm) (nI tg) (pm_src I f) := by
        rw [hsr, pm_id_n (by omega) hfm ht (by omega), pc_id_n ht]
        rfl
      simp only [if_true]
      refine ⟨?_, ?_, ?_, pr, fm, tg, a, f, hp, ht, ha, hf, ?_, rfl, hw⟩
      · simp only [upd, if_true]
        exact eid
      · simp [vp_updL]
      · simp [upd]
      · rw [hsr, pm_id_n (by omega) hfm ht (by omega)]
    · simp only [upd, vp_updL, if_neg e]
      exact h6 i (show i < cnt by omega)
  · unfold pc_put pm_put
    simp only
    rw [if_neg g, if_pos (by omega)]
    refine ⟨h1, h2, rfl, h4, ?_, h6⟩
    show ovf + nI 1 = lo + nI 1
    rw [show ovf = lo from h5]
theorem nI_sub {a b : Nat} (h : b ≤ a) : nI a - nI b = nI (a - b) := by
  have : nI a = nI (a - b) + nI b := by rw [nI_add, Nat.sub_add_cancel h]
  rw [this, Int32.add_sub_cancel]
def RA (t : Nat) (st ad : Int32) (hd : Int64) (he cd : Int32) : Prop := (st = nI 0 ∧ hd = pc_NEVER) ∨ (st = nI 1 ∧ (∃ a, a ≤ 253 ∧ ad = nI a ∧ he = nI a) ∧ tm t hd cd) ∨ (st = nI 2 ∧ (∃ a, a ≤ 253 ∧ ad = nI a ∧ he = nI a) ∧ hd = pc_NEVER) ∨ (st = nI 3 ∧ ad = nI 254 ∧ hd = pc_NEVER)
def ROK (ph tg gr si nx : Int32) : Prop := (∃ g, g ≤ 262143 ∧ gr = nI g) ∧ (∃ z k, 9 ≤ z ∧ z ≤ 49 ∧ si = nI z ∧ 1 ≤ k ∧ k ≤ (z + 6) / 7 ∧ nx = nI k) ∧ ((ph = nI 1 ∧ tg = nI 255) ∨ ((ph = nI 2 ∨ ph = nI 3) ∧ ∃ a, a ≤ 253 ∧ tg = nI a))
def RO (t : Nat) (st : Int32) (ou : zOu) (o : zVo) : Prop := match ou, o with
  | (ph, re, tg, gr, si, se, nx, du), (v9, v10, v11, v12, v13, w14, v15, v16) => v9 = ph ∧ (st ≠ nI 0 → v10 = re) ∧ v11 = tg ∧ v12 = gr ∧ v13 = si ∧ w14 = se ∧ (∃ z, z ≤ 49 ∧ si = nI z) ∧ ((ph = nI 0 ∧ du = pc_NEVER) ∨ (st = nI 2 ∧ v15 = nx ∧ tm t du v16 ∧ ROK ph tg gr si nx))
/-- an open session, but for its timer and its window -/
def SS0 (x : zIn) (s : zSl) : Prop := match x, s with
  | ((pk, so, gr, si, ta), op, _, ex, _, ak, _), (al, sf, sg, sz, se, _, sa, _, _, sb) => op = true ∧ al = zb ta ∧ sf = so ∧ sg = gr ∧ sz = si ∧ se = nI ex ∧ sa = ak ∧ (∃ a, a ≤ 253 ∧ so = nI a) ∧ (∃ g, g < 16777216 ∧ gr = nI g) ∧ (∃ z, 9 ≤ z ∧ z ≤ 49 ∧ si = nI z ∧ 1 ≤ ex ∧ ex ≤ (z + 6) / 7) ∧ ∀ i, i < 7 * (ex - 1) → i < 49 → sb i = pc_fb (pk (i / 7)) (nI (i % 7 + 2))
def SS (t : Nat) (x : zIn) (s : zSl) : Prop := SS0 x s ∧ (x.1.2.2.2.2 = false → s.2.2.2.2.2.1 = x.2.2.2.2.1 ∧ s.2.2.2.2.2.2.2.1 = zb x.2.2.1) ∧ tm t x.2.2.2.2.2.2 s.2.2.2.2.2.2.2.2.1
def oc (x : zIn) : Nat := if x.2.1 = true then 1 else 0
def RS (t : Nat) (st : Int32) (x0 x1 : zIn) (n : Int32) (s0 s1 : zSl) : Prop := n = nI (oc x0 + oc x1) ∧ (x0.2.1 = true → SS t x0 s0) ∧ (x1.2.1 = true → SS t x1 (if x0.2.1 = true then s1 else s0)) ∧ (x0.2.1 = true → x1.2.1 = true → ¬ (x0.1.2.1 = x1.1.2.1 ∧ x0.1.2.2.2.2 = x1.1.2.2.2.2)) ∧ (x0.2.1 = false → x0.2.2.2.2.2.2 = pc_NEVER) ∧ (x1.2.1 = false → x1.2.2.2.2.2.2 = pc_NEVER) ∧ x0.2.2.2.1 ≤ 8 ∧ x1.2.2.2.1 ≤ 8 ∧ ((x0.2.1 = true ∨ x1.2.1 = true) → st = nI 2)
def RL (de : Int32) (la : zMs) (L : zVl) : Prop := match la, L with
  | (pk, so, gr, si, ta), (ar, l0, l1, l2, l3, lb) => ar = de ∧ (∃ z, z ≤ 49 ∧ l2 = nI z) ∧ (0 < de → l0 = so ∧ l1 = gr ∧ l2 = si ∧ l3 = zb ta ∧ ∀ i, i < 49 → nI i < si → lb i = pc_fb (pk (i / 7)) (nI (i % 7 + 2)))
def RV (t : Nat) (G : zG) (V : zV) : Prop := match G, V with
  | (ad, bz, nt, o, la, ou, x0, x1, de, st, nm, hd), ((v0, v1, w2, v3, v4), N, O, n, s0, s1, L) => o ≤ 1 ∧ v3 = zb bz ∧ v0 = st ∧ w2 = nm ∧ (∀ k, k < 5 → N k = nt k) ∧ RA t st ad hd v1 v4 ∧ RO t st ou O ∧ RS t st x0 x1 n s0 s1 ∧ RL de la L
def RR (c : Nat) (B : zB) (H : Nat → zG) (D : zMd) : Prop := ∃ t, t ≤ 2000 * c ∧ RB t B D ∧ ∀ f, f < 5 → RV t (H f) (vw D f)
/-! Sessions -/
def gset (r : Nat) (x : zIn) (G : zG) : zG := match G with
  | (ad, bz, nt, o, la, ou, x0, x1, de, st, nm, hd) => (ad, bz, nt, o, la, ou, (if r = 0 then x else x0), (if r = 0 then x1 else x), de, st, nm, hd)
def gses (r : Nat) (G : zG) : zIn := if r = 0 then G.2.2.2.2.2.2.1 else G.2.2.2.2.2.2.2.1
def gpl (r : Nat) (G : zG) : Nat := if r = 0 then 0 else if G.2.2.2.2.2.2.1.2.1 = true then 1 else 0
theorem gpl_lt (r : Nat) (G : zG) : gpl r G < 2 := by
  unfold gpl
  split
  · decide
  · split <;> decide
theorem SS.op {t : Nat} {x : zIn} {s : zSl} (h : SS t x s) : x.2.1 = true := by
  obtain ⟨⟨pk, so, gr, si, ta⟩, op, he, ex, lt, ak, du⟩ := x
  exact h.1.1
theorem SS.nar {t : Nat} {x : zIn} {s : zSl} (h : SS t x s) : SS t x (snar s) := by
  obtain ⟨⟨pk, so, gr, si, ta⟩, op, he, ex, lt, ak, du⟩ := x
  obtain ⟨al, sf, sg, sz, se, sl, sa, sh, sd, sb⟩ := s
  obtain ⟨⟨h1, h2, h3⟩, h4, h5⟩ := h
  have h2 : al = zb ta := h2
  refine ⟨⟨h1, ?_, h3⟩, fun z => ⟨(h4 z).1, ?_⟩, h5⟩
  · show vp_nar .boolean al = zb ta
    rw [h2, nar_zb]
  · show vp_nar .boolean sh = zb he
    rw [show sh = zb he from (h4 z).2, nar_zb]
theorem RS.at {t : Nat} {G : zG} {V : zV} {r : Nat} (h : RV t G V) (ho : (gses r G).2.1 = true) : SS t (gses r G) (vslot (gpl r G) V) := by
  obtain ⟨ad, bz, nt, o, la, ou, x0, x1, de, st, nm, hd⟩ := G
  obtain ⟨⟨v0, v1, w2, v3, v4⟩, N, O, n, s0, s1, L⟩ := V
  obtain ⟨-, -, -, -, -, -, -, hS, -⟩ := h
  by_cases hr : r = 0
  · subst hr
    exact hS.2.1 ho
  · have e1 : gses r (ad, bz, nt, o, la, ou, x0, x1, de, st, nm, hd) = x1 := if_neg hr
    rw [e1] at ho ⊢
    have := hS.2.2.1 ho
    by_cases g : x0.2.1 = true
    · have e2 : gpl r (ad, bz, nt, o, la, ou, x0, x1, de, st, nm, hd) = 1 := by unfold gpl; rw [if_neg hr]; exact if_pos g
      rw [e2]
      rw [if_pos g] at this
      exact this
    · have e2 : gpl r (ad, bz, nt, o, la, ou, x0, x1, de, st, nm, hd) = 0 := by unfold gpl; rw [if_neg hr]; exact if_neg g
      rw [e2]
      rw [if_neg g] at this
      exact this
theorem oc_1 {x : zIn} (h : x.2.1 = true) : oc x = 1 := if_pos h
theorem oc_0 {x : zIn} (h : x.2.1 = false) : oc x = 0 := if_neg (by rw [h]; decide)
theorem RV.set {t : Nat} {G : zG} {V : zV} {r : Nat} {x : zIn} {s : zSl} (h : RV t G V) (ho : (gses r G).2.1 = true) (hs : SS t x s) (e1 : x.1.2.1 = (gses r G).1.2.1) (e2 : x.1.2.2.2.2 = (gses r G).1.2.2.2.2) (h8 : x.2.2.2.1 ≤ 8) : RV t (gset r x G) (vset (gpl r G) s V) := by
  obtain ⟨ad, bz, nt, o, la, ou, x0, x1, de, st, nm, hd⟩ := G
  obtain ⟨⟨v0, v1, w2, v3, v4⟩, N, O, n, s0, s1, L⟩ := V
  obtain ⟨a1, a2, a3, a4, a5, a6, a7, ⟨b1, b2, b3, b4, b5, b6, b7, b8, b9⟩, a9⟩ := h
  have hx := hs.op
  by_cases hr : r = 0
  · subst hr
    have ho : x0.2.1 = true := ho
    have e1 : x.1.2.1 = x0.1.2.1 := e1
    have e2 : x.1.2.2.2.2 = x0.1.2.2.2.2 := e2
    show RV t (ad, bz, nt, o, la, ou, x, x1, de, st, nm, hd) _
    refine ⟨a1, a2, a3, a4, a5, a6, a7, ⟨?_, fun _ => hs, fun z => ?_, fun _ z => ?_, fun z => ?_, b6, h8, b8, fun _ => b9 (Or.inl ho)⟩, a9⟩
    · show n = nI (oc x + oc x1)
      rw [oc_1 hx, b1, oc_1 ho]
    · have := b3 z
      rw [if_pos ho] at this
      show SS t x1 (if x.2.1 = true then s1 else s)
      rw [if_pos hx]
      exact this
    · rw [e1, e2]
      exact b4 ho z
    · rw [hx] at z
      cases z
  · have g0 : gses r (ad, bz, nt, o, la, ou, x0, x1, de, st, nm, hd) = x1 := if_neg hr
    rw [g0] at ho e1 e2
    have gs : gset r x (ad, bz, nt, o, la, ou, x0, x1, de, st, nm, hd) = (ad, bz, nt, o, la, ou, x0, x, de, st, nm, hd) := by
      unfold gset
      simp [hr]
    rw [gs]
    by_cases g : x0.2.1 = true
    · have gp : gpl r (ad, bz, nt, o, la, ou, x0, x1, de, st, nm, hd) = 1 := by unfold gpl; rw [if_neg hr]; exact if_pos g
      rw [gp]
      refine ⟨a1, a2, a3, a4, a5, a6, a7, ⟨?_, b2, fun _ => ?_, fun z _ => ?_, b5, fun z => ?_, b7, h8, fun _ => b9 (Or.inr ho)⟩, a9⟩
      · show n = nI (oc x0 + oc x)
        rw [oc_1 hx, b1, oc_1 ho]
      · rw [if_pos g]
        exact hs
      · rw [e1, e2]
        exact b4 z ho
      · rw [hx] at z
        cases z
    · have gp : gpl r (ad, bz, nt, o, la, ou, x0, x1, de, st, nm, hd) = 0 := by unfold gpl; rw [if_neg hr]; exact if_neg g
      rw [gp]
      refine ⟨a1, a2, a3, a4, a5, a6, a7, ⟨?_, fun z => absurd z g, fun _ => ?_, fun z _ => absurd z g, b5, fun z => ?_, b7, h8, fun _ => b9 (Or.inr ho)⟩, a9⟩
      · show n = nI (oc x0 + oc x)
        rw [oc_1 hx, b1, oc_1 ho]
      · rw [if_neg g]
        exact hs
      · rw [hx] at z
        cases z
theorem RV.fin {t : Nat} {G : zG} {V : zV} {r : Nat} {x : zIn} {s : zSl} (h : RV t G V) (ho : (gses r G).2.1 = true) (hx : x.2.1 = false) (hnv : x.2.2.2.2.2.2 = pc_NEVER) (h8 : x.2.2.2.1 ≤ 8) : RV t (gset r x G) (vclose (gpl r G) (vset (gpl r G) s V)) := by
  obtain ⟨ad, bz, nt, o, la, ou, x0, x1, de, st, nm, hd⟩ := G
  obtain ⟨⟨v0, v1, w2, v3, v4⟩, N, O, n, s0, s1, L⟩ := V
  obtain ⟨a1, a2, a3, a4, a5, a6, a7, ⟨b1, b2, b3, b4, b5, b6, b7, b8, b9⟩, a9⟩ := h
  have hn : ¬ x.2.1 = true := by rw [hx]; decide
  by_cases hr : r = 0
  · subst hr
    have ho : x0.2.1 = true := ho
    show RV t (ad, bz, nt, o, la, ou, x, x1, de, st, nm, hd) _
    refine ⟨a1, a2, a3, a4, a5, a6, a7, ⟨?_, fun z => absurd z hn, fun z => ?_, fun z _ => absurd z hn, fun _ => hnv, b6, h8, b8, fun z => b9 (Or.inl ho)⟩, a9⟩
    · show n - nI 1 = nI (oc x + oc x1)
      rw [oc_0 hx, b1, oc_1 ho, Nat.add_comm, ← nI_add, Int32.add_sub_cancel, Nat.zero_add]
    · have h1 := b3 z
      rw [if_pos ho] at h1
      have hne : ¬ n - nI 1 = 0 := by
        rw [b1, oc_1 ho, oc_1 z]
        decide
      have h2 : SS t x1 (if x.2.1 = true then s1 else if 0 = 0 ∧ ¬ n - nI 1 = 0 then snar s1 else s) := by
        rw [if_neg hn, if_pos ⟨rfl, hne⟩]
        exact h1.nar
      exact h2
  · have g0 : gses r (ad, bz, nt, o, la, ou, x0, x1, de, st, nm, hd) = x1 := if_neg hr
    rw [g0] at ho
    have gs : gset r x (ad, bz, nt, o, la, ou, x0, x1, de, st, nm, hd) = (ad, bz, nt, o, la, ou, x0, x, de, st, nm, hd) := by
      unfold gset
      simp [hr]
    rw [gs]
    by_cases g : x0.2.1 = true
    · have gp : gpl r (ad, bz, nt, o, la, ou, x0, x1, de, st, nm, hd) = 1 := by unfold gpl; rw [if_neg hr]; exact if_pos g
      rw [gp]
      refine ⟨a1, a2, a3, a4, a5, a6, a7, ⟨?_, b2, fun z => absurd z hn, fun _ z => absurd z hn, b5, fun _ => hnv, b7, h8, fun _ => b9 (Or.inr ho)⟩, a9⟩
      show n - nI 1 = nI (oc x0 + oc x)
      rw [oc_0 hx, b1, oc_1 ho, ← nI_add, Int32.add_sub_cancel, Nat.add_zero]
    · have gp : gpl r (ad, bz, nt, o, la, ou, x0, x1, de, st, nm, hd) = 0 := by unfold gpl; rw [if_neg hr]; exact if_neg g
      rw [gp]
      refine ⟨a1, a2, a3, a4, a5, a6, a7, ⟨?_, fun z => absurd z g, fun z => absurd z hn, fun _ z => absurd z hn, b5, fun _ => hnv, b7, h8, fun _ => b9 (Or.inr ho)⟩, a9⟩
      show n - nI 1 = nI (oc x0 + oc x)
      rw [oc_0 hx, b1, oc_1 ho, ← nI_add, Int32.add_sub_cancel, Nat.add_zero]
theorem vset_self {c : Nat} {V : zV} : vset c (vslot c V) V = V := by
  obtain ⟨A, N, O, n, s0, s1, L⟩ := V
  unfold vset vslot
  by_cases h : c = 0
  · simp [h]
  · simp [h]
