/-! Views of the reference: what belongs to one function, and the bus. -/
abbrev zSl : Type := Int32 × Int32 × Int32 × Int32 × Int32 × Int32 × Int32 × Int32 × Int32 × (Nat → Int32)
abbrev zVa : Type := Int32 × Int32 × Int64 × Int32 × Int32
abbrev zVo : Type := Int32 × Int32 × Int32 × Int32 × Int32 × Int64 × Int32 × Int32
abbrev zVl : Type := Int32 × Int32 × Int32 × Int32 × Int32 × (Nat → Int32)
abbrev zV : Type := zVa × (Nat → Int32) × zVo × Int32 × zSl × zSl × zVl
def slv (I : Nat → Nat → Int32) (s : Nat) : zSl := (I 18 s, I 19 s, I 20 s, I 21 s, I 22 s, I 23 s, I 24 s, I 25 s, I 26 s, fun i => if i < 49 then I 27 (49 * s + i) else 0)
def vwI (I : Nat → Nat → Int32) (J : Nat → Nat → Int64) (f : Nat) : zV := ((I 0 f, I 1 f, J 2 f, I 3 f, I 4 f), (fun k => if k < 5 then I 5 (5 * f + k) else 0), (I 9 f, I 10 f, I 11 f, I 12 f, I 13 f, J 14 f, I 15 f, I 16 f), I 17 f, slv I (2 * f), slv I (2 * f + 1), (I 28 f, I 29 (4 * f), I 29 (4 * f + 1), I 29 (4 * f + 2), I 29 (4 * f + 3), fun i => if i < 49 then I 30 (49 * f + i) else 0))
def vw (D : zMd) (f : Nat) : zV := vwI D.2.2.2.1 D.2.2.2.2 f
/-- whose a place of an array is -/
def own (a j : Nat) : Nat := if a = 5 then j / 5 else if a = 27 then j / 98 else if a = 29 then j / 4 else if a = 30 then j / 49 else if 18 ≤ a ∧ a ≤ 26 then j / 2 else j
def FrI (f : Nat) (I I' : Nat → Nat → Int32) : Prop := ∀ a j, a ≠ 6 → a ≠ 8 → own a j ≠ f → I' a j = I a j
def FrJ (f : Nat) (J J' : Nat → Nat → Int64) : Prop := ∀ a j, a ≠ 7 → own a j ≠ f → J' a j = J a j
/-- nothing but what is f's, and the frames, has changed -/
def Fr (f : Nat) (D D' : zMd) : Prop := D'.1 = D.1 ∧ FrI f D.2.2.2.1 D'.2.2.2.1 ∧ FrJ f D.2.2.2.2 D'.2.2.2.2
theorem FrI.rf {f : Nat} {I : Nat → Nat → Int32} : FrI f I I := fun _ _ _ _ _ => rfl
theorem FrJ.rf {f : Nat} {J : Nat → Nat → Int64} : FrJ f J J := fun _ _ _ _ => rfl
theorem Fr.rf {f : Nat} {D : zMd} : Fr f D D := ⟨rfl, FrI.rf, FrJ.rf⟩
theorem Fr.tr {f : Nat} {D D' D'' : zMd} (h : Fr f D D') (g : Fr f D' D'') : Fr f D D'' := ⟨g.1.trans h.1, fun a j h6 h8 ho => (g.2.1 a j h6 h8 ho).trans (h.2.1 a j h6 h8 ho), fun a j h7 ho => (g.2.2 a j h7 ho).trans (h.2.2 a j h7 ho)⟩
theorem FrI.up {f k i : Nat} {I0 I : Nat → Nat → Int32} {v : Int32} (ho : own k i = f) (h : FrI f I0 I) : FrI f I0 (up2 I k i v) := by
  intro a j h6 h8 hn
  rw [up2_r]
  by_cases ha : a = k
  · by_cases hj : j = i
    · subst ha hj
      exact absurd ho hn
    · rw [if_pos ha, if_neg hj]
      exact h a j h6 h8 hn
  · rw [if_neg ha]
    exact h a j h6 h8 hn
theorem FrJ.up {f k i : Nat} {J0 J : Nat → Nat → Int64} {v : Int64} (ho : own k i = f) (h : FrJ f J0 J) : FrJ f J0 (up2 J k i v) := by
  intro a j h7 hn
  rw [up2_r]
  by_cases ha : a = k
  · by_cases hj : j = i
    · subst ha hj
      exact absurd ho hn
    · rw [if_pos ha, if_neg hj]
      exact h a j h7 hn
  · rw [if_neg ha]
    exact h a j h7 hn
theorem own_s {a s : Nat} (h1 : 18 ≤ a) (h2 : a ≤ 26) : own a s = s / 2 := by
  unfold own
  rw [if_neg (by omega), if_neg (by omega), if_neg (by omega), if_neg (by omega), if_pos (by omega)]
theorem slv_eq {I I' : Nat → Nat → Int32} {s : Nat} (h : ∀ a, 18 ≤ a → a ≤ 26 → I' a s = I a s) (h2 : ∀ i, i < 49 → I' 27 (49 * s + i) = I 27 (49 * s + i)) : slv I' s = slv I s := by
  unfold slv
  rw [h 18 (by decide) (by decide), h 19 (by decide) (by decide), h 20 (by decide) (by decide), h 21 (by decide) (by decide), h 22 (by decide) (by decide), h 23 (by decide) (by decide), h 24 (by decide) (by decide), h 25 (by decide) (by decide), h 26 (by decide) (by decide)]
  congr 9
  funext i
  by_cases hi : i < 49
  · rw [if_pos hi, if_pos hi, h2 i hi]
  · rw [if_neg hi, if_neg hi]
theorem vwI_eq {I I' : Nat → Nat → Int32} {J J' : Nat → Nat → Int64} {g : Nat} (hI : ∀ a j, a ≠ 6 → a ≠ 8 → own a j = g → I' a j = I a j) (hJ : ∀ a j, a ≠ 7 → own a j = g → J' a j = J a j) : vwI I' J' g = vwI I J g := by
  have hs : ∀ c, c < 2 → slv I' (2 * g + c) = slv I (2 * g + c) := fun c hc => slv_eq (fun a h1 h2 => hI a _ (by omega) (by omega) (by rw [own_s h1 h2]; omega)) (fun i hi => hI 27 _ (by decide) (by decide) (by show (49 * (2 * g + c) + i) / 98 = g; omega))
  have hs0 : slv I' (2 * g) = slv I (2 * g) := hs 0 (by decide)
  have hN : (fun k => if k < 5 then I' 5 (5 * g + k) else 0) = (fun k => if k < 5 then I 5 (5 * g + k) else 0) := by
    funext k
    by_cases h : k < 5
    · rw [if_pos h, if_pos h, hI 5 _ (by decide) (by decide) (by show (5 * g + k) / 5 = g; omega)]
    · rw [if_neg h, if_neg h]
  have hL : (fun i => if i < 49 then I' 30 (49 * g + i) else 0) = (fun i => if i < 49 then I 30 (49 * g + i) else 0) := by
    funext k
    by_cases h : k < 49
    · rw [if_pos h, if_pos h, hI 30 _ (by decide) (by decide) (by show (49 * g + k) / 49 = g; omega)]
    · rw [if_neg h, if_neg h]
  have hl : ∀ c, c < 4 → I' 29 (4 * g + c) = I 29 (4 * g + c) := fun c hc => hI 29 _ (by decide) (by decide) (by show (4 * g + c) / 4 = g; omega)
  have hl0 : I' 29 (4 * g) = I 29 (4 * g) := hl 0 (by decide)
  unfold vwI
  rw [hN, hL, hs0, hs 1 (by decide), hl0, hl 1 (by decide), hl 2 (by decide), hl 3 (by decide)]
  rw [hI 0 g (by decide) (by decide) rfl, hI 1 g (by decide) (by decide) rfl, hI 3 g (by decide) (by decide) rfl, hI 4 g (by decide) (by decide) rfl, hI 9 g (by decide) (by decide) rfl, hI 10 g (by decide) (by decide) rfl, hI 11 g (by decide) (by decide) rfl, hI 12 g (by decide) (by decide) rfl, hI 13 g (by decide) (by decide) rfl, hI 15 g (by decide) (by decide) rfl, hI 16 g (by decide) (by decide) rfl, hI 17 g (by decide) (by decide) rfl, hI 28 g (by decide) (by decide) rfl]
  rw [hJ 2 g (by decide) rfl, hJ 14 g (by decide) rfl]
theorem vw_fr {f g : Nat} {D D' : zMd} (h : Fr f D D') (hg : g ≠ f) : vw D' g = vw D g := vwI_eq (fun a j h6 h8 ho => h.2.1 a j h6 h8 (by rw [ho]; exact hg)) (fun a j h7 ho => h.2.2 a j h7 (by rw [ho]; exact hg))
theorem pm_put_J {D : zMd} {f : Nat} {pr fm tg : Int32} {d : Int64} {a : Nat} (h7 : a ≠ 7) (j : Nat) : (pm_put D f pr fm tg d).2.2.2.2 a j = D.2.2.2.2 a j := by
  obtain ⟨t, fr, lo, I, J⟩ := D
  unfold pm_put
  simp only
  split
  · rfl
  · simp [up2_r, h7]
theorem pm_put_t {D : zMd} {f : Nat} {pr fm tg : Int32} {d : Int64} : (pm_put D f pr fm tg d).1 = D.1 := by
  obtain ⟨t, fr, lo, I, J⟩ := D
  unfold pm_put
  simp only
  split <;> rfl
theorem vw_put {D : zMd} {f g : Nat} {pr fm tg : Int32} {d : Int64} : vw (pm_put D f pr fm tg d) g = vw D g := vwI_eq (fun a j h6 h8 _ => pm_put_I h6 h8 j) (fun a j h7 _ => pm_put_J h7 j)
theorem fr_put {D : zMd} {f g : Nat} {pr fm tg : Int32} {d : Int64} : Fr g D (pm_put D f pr fm tg d) := ⟨pm_put_t, fun a j h6 h8 _ => pm_put_I h6 h8 j, fun a j h7 _ => pm_put_J h7 j⟩
/-- the bus has not changed -/
def bwE (D D' : zMd) : Prop := D'.1 = D.1 ∧ D'.2.1 = D.2.1 ∧ D'.2.2.1 = D.2.2.1 ∧ D'.2.2.2.1 6 = D.2.2.2.1 6 ∧ D'.2.2.2.1 8 = D.2.2.2.1 8 ∧ D'.2.2.2.2 7 = D.2.2.2.2 7
theorem bwE.rf {D : zMd} : bwE D D := ⟨rfl, rfl, rfl, rfl, rfl, rfl⟩
theorem bwE.tr {D D' D'' : zMd} (h : bwE D D') (g : bwE D' D'') : bwE D D'' := ⟨g.1.trans h.1, g.2.1.trans h.2.1, g.2.2.1.trans h.2.2.1, g.2.2.2.1.trans h.2.2.2.1, g.2.2.2.2.1.trans h.2.2.2.2.1, g.2.2.2.2.2.trans h.2.2.2.2.2⟩
theorem up2_row {α : Type} (I : Nat → Nat → α) {k a : Nat} (i : Nat) (v : α) (h : a ≠ k) : up2 I k i v a = I a := by
  funext j
  simp [up2_r, h]
/-- slots -/
def vset (c : Nat) (s : zSl) (V : zV) : zV := (V.1, V.2.1, V.2.2.1, V.2.2.2.1, (if c = 0 then s else V.2.2.2.2.1), (if c = 0 then V.2.2.2.2.2.1 else s), V.2.2.2.2.2.2)
def vslot (c : Nat) (V : zV) : zSl := if c = 0 then V.2.2.2.2.1 else V.2.2.2.2.2.1
def gM (oc si ex : Int32) : Int32 := if oc = 0 then (if nI 3 ≤ pm_pk si - ex + nI 1 then nI 3 else pm_pk si - ex + nI 1) else nI 0
def sgr (t oc : Int32) (s : zSl) : zSl := match s with
  | (al, sf, sg, sz, se, _, sa, _, _, sb) => (al, sf, sg, sz, se, se + gM oc sz se - nI 1, sa, vp_nar .boolean (if gM oc sz se = 0 then nI 1 else nI 0), t + (if gM oc sz se = 0 then nI 500 else nI 1250), sb)
def snar (s : zSl) : zSl := match s with
  | (al, sf, sg, sz, se, sl, sa, sh, sd, sb) => (vp_nar .boolean al, sf, sg, sz, se, sl, sa, vp_nar .boolean sh, sd, sb)
def vclose (c : Nat) (V : zV) : zV := (V.1, V.2.1, V.2.2.1, V.2.2.2.1 - nI 1, (if c = 0 ∧ ¬ V.2.2.2.1 - nI 1 = 0 then snar V.2.2.2.2.2.1 else V.2.2.2.2.1), V.2.2.2.2.2.1, V.2.2.2.2.2.2)
def vask (s : zSl) : zSl := match s with
  | (al, sf, sg, sz, se, sl, sa, sh, sd, sb) => (al, sf, sg, sz, se, sl, sa + nI 1, sh, sd, sb)
theorem vw_slot {D : zMd} {f c : Nat} (hc : c < 2) : vslot c (vw D f) = slv D.2.2.2.1 (2 * f + c) := by
  rcases (show c = 0 ∨ c = 1 by omega) with rfl | rfl <;> rfl
theorem vw_grant {D : zMd} {f c : Nat} (hc : c < 2) : vw (pm_grant D f (2 * f + c)) f = vset c (sgr D.1 (D.2.2.2.1 3 f) (slv D.2.2.2.1 (2 * f + c))) (vw D f) := by
  obtain ⟨t, fr, lo, I, J⟩ := D
  unfold pm_grant pm_putC
  simp only
  rw [vw_put, show pm_grM I f (2 * f + c) = gM (I 3 f) (I 21 (2 * f + c)) (I 22 (2 * f + c)) from rfl]
  rcases (show c = 0 ∨ c = 1 by omega) with rfl | rfl
  · simp [vw, vwI, slv, up2_r, vset, sgr]
  · simp [vw, vwI, slv, up2_r, vset, sgr]
    refine ⟨?_, ?_⟩ <;> congr
theorem fr_grant {D : zMd} {f c : Nat} (hc : c < 2) : Fr f D (pm_grant D f (2 * f + c)) := by
  obtain ⟨t, fr, lo, I, J⟩ := D
  unfold pm_grant pm_putC
  refine Fr.tr ?_ fr_put
  exact ⟨rfl, FrI.up (by rw [own_s (by decide) (by decide)]; omega) (FrI.up (by rw [own_s (by decide) (by decide)]; omega) (FrI.up (by rw [own_s (by decide) (by decide)]; omega) FrI.rf)), FrJ.rf⟩
theorem vw_close {D : zMd} {f c : Nat} (hc : c < 2) : vw (pm_close D f (2 * f + c)) f = vclose c (vw D f) := by
  obtain ⟨t, fr, lo, I, J⟩ := D
  unfold pm_close
  simp only
  rcases (show c = 0 ∨ c = 1 by omega) with rfl | rfl
  · rw [Nat.add_zero, if_neg (by omega)]
    by_cases h : I 17 f - nI 1 = 0
    · rw [if_pos h]
      simp [vw, vwI, slv, up2_r, vclose, h]
    · rw [if_neg h]
      have hb : (fun i => if i < 49 then pm_cpB (pm_mv I (up2 I 17 f (I 17 f - nI 1)) (2 * f)) (2 * f) 49 27 (49 * (2 * f) + i) else 0) = (fun i => if i < 49 then I 27 (49 * (2 * f + 1) + i) else 0) := by
        funext i
        by_cases hi : i < 49
        · rw [if_pos hi, if_pos hi]
          unfold pm_cpB
          rw [if_pos (by omega)]
          simp [pm_mv, up2_r]
          congr 1
          omega
        · rw [if_neg hi, if_neg hi]
      have hb2 : (fun i => if i < 49 then pm_cpB (pm_mv I (up2 I 17 f (I 17 f - nI 1)) (2 * f)) (2 * f) 49 27 (49 * (2 * f + 1) + i) else 0) = (fun i => if i < 49 then I 27 (49 * (2 * f + 1) + i) else 0) := by
        funext i
        by_cases hi : i < 49
        · rw [if_pos hi, if_pos hi]
          unfold pm_cpB
          rw [if_neg (by omega)]
          simp [pm_mv, up2_r]
        · rw [if_neg hi, if_neg hi]
      have hr : ∀ a j, a ≠ 27 → pm_cpB (pm_mv I (up2 I 17 f (I 17 f - nI 1)) (2 * f)) (2 * f) 49 a j = pm_mv I (up2 I 17 f (I 17 f - nI 1)) (2 * f) a j := by
        intro a j ha
        unfold pm_cpB
        rw [if_neg (by simp [ha])]
      simp only [vw, vwI, slv]
      rw [hb2, hb]
      simp (disch := decide) only [hr]
      simp [pm_mv, up2_r, vclose, snar, h]
  · rw [if_pos (by omega)]
    simp [vw, vwI, slv, up2_r, vclose]
theorem fr_close {D : zMd} {f c : Nat} (hc : c < 2) : Fr f D (pm_close D f (2 * f + c)) := by
  obtain ⟨t, fr, lo, I, J⟩ := D
  unfold pm_close
  simp only
  have h17 : own 17 f = f := rfl
  split
  · exact ⟨rfl, FrI.up h17 FrI.rf, FrJ.rf⟩
  · split
    · exact ⟨rfl, FrI.up h17 FrI.rf, FrJ.rf⟩
    · refine ⟨rfl, ?_, FrJ.rf⟩
      have ho : ∀ a, 18 ≤ a → a ≤ 26 → own a (2 * f + c) = f := fun a h1 h2 => by rw [own_s h1 h2]; omega
      have h1 : FrI f I (pm_mv I (up2 I 17 f (I 17 f - nI 1)) (2 * f + c)) := FrI.up (ho 26 (by decide) (by decide)) (FrI.up (ho 25 (by decide) (by decide)) (FrI.up (ho 24 (by decide) (by decide)) (FrI.up (ho 23 (by decide) (by decide)) (FrI.up (ho 22 (by decide) (by decide)) (FrI.up (ho 21 (by decide) (by decide)) (FrI.up (ho 20 (by decide) (by decide)) (FrI.up (ho 19 (by decide) (by decide)) (FrI.up (ho 18 (by decide) (by decide)) (FrI.up h17 FrI.rf)))))))))
      intro a j h6 h8 hn
      show pm_cpB _ _ 49 a j = I a j
      unfold pm_cpB
      by_cases h : a = 27 ∧ 49 * (2 * f + c) ≤ j ∧ j < 49 * (2 * f + c) + 49
      · obtain ⟨rfl, h3, h4⟩ := h
        exact absurd (show j / 98 = f by omega) hn
      · rw [if_neg h]
        exact h1 a j h6 h8 hn
/-- askAgain -/
theorem vw_ask1 {t : Int32} {fr : Nat} {lo v : Int32} {I : Nat → Nat → Int32} {J : Nat → Nat → Int64} {f c : Nat} (hc : c < 2) (hv : v = I 24 (2 * f + c) + nI 1) : vw (t, fr, lo, up2 I 24 (2 * f + c) v, J) f = vset c (vask (slv I (2 * f + c))) (vw (t, fr, lo, I, J) f) := by
  subst hv
  rcases (show c = 0 ∨ c = 1 by omega) with rfl | rfl
  · simp [vw, vwI, slv, up2_r, vset, vask]
  · simp [vw, vwI, slv, up2_r, vset, vask]
theorem fr_ask1 {t : Int32} {fr : Nat} {lo v : Int32} {I : Nat → Nat → Int32} {J : Nat → Nat → Int64} {f c : Nat} (hc : c < 2) : Fr f (t, fr, lo, I, J) (t, fr, lo, up2 I 24 (2 * f + c) v, J) := ⟨rfl, FrI.up (by rw [own_s (by decide) (by decide)]; omega) FrI.rf, FrJ.rf⟩
theorem bw_up {t : Int32} {fr : Nat} {lo v : Int32} {I : Nat → Nat → Int32} {J : Nat → Nat → Int64} {k i : Nat} (h6 : 6 ≠ k) (h8 : 8 ≠ k) : bwE (t, fr, lo, I, J) (t, fr, lo, up2 I k i v, J) := ⟨rfl, rfl, rfl, up2_row I i v h6, up2_row I i v h8, rfl⟩
theorem bw_close {D : zMd} {f s : Nat} : bwE D (pm_close D f s) := by
  obtain ⟨t, fr, lo, I, J⟩ := D
  unfold pm_close
  simp only
  split
  · exact bw_up (by decide) (by decide)
  · split
    · exact bw_up (by decide) (by decide)
    · have hr : ∀ a, a ≠ 27 → pm_cpB (pm_mv I (up2 I 17 f (I 17 f - nI 1)) s) s 49 a = pm_mv I (up2 I 17 f (I 17 f - nI 1)) s a := by
        intro a ha
        funext j
        unfold pm_cpB
        rw [if_neg (by simp [ha])]
      have hm : ∀ a, a < 17 → pm_mv I (up2 I 17 f (I 17 f - nI 1)) s a = I a := by
        intro a ha
        unfold pm_mv
        rw [up2_row _ _ _ (by omega), up2_row _ _ _ (by omega), up2_row _ _ _ (by omega), up2_row _ _ _ (by omega), up2_row _ _ _ (by omega), up2_row _ _ _ (by omega), up2_row _ _ _ (by omega), up2_row _ _ _ (by omega), up2_row _ _ _ (by omega), up2_row _ _ _ (by omega)]
      exact ⟨rfl, rfl, rfl, (hr 6 (by decide)).trans (hm 6 (by decide)), (hr 8 (by decide)).trans (hm 8 (by decide)), rfl⟩
