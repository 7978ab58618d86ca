/-! The waiting frames as a list. -/
abbrev zF : Type := Int32 × Int64 × Int32
def eB (B : zB) (i : Nat) : zF := (B.1 i, B.2.1 i, B.2.2.1 i)
def eD (D : zMd) (i : Nat) : zF := (D.2.2.2.1 6 i, D.2.2.2.2 7 i, D.2.2.2.1 8 i)
def lst (a : Nat → zF) (n : Nat) : List zF := (List.range n).map a
theorem lst_s (a : Nat → zF) (n : Nat) : lst a (n + 1) = lst a n ++ [a n] := by
  unfold lst
  rw [List.range_succ, List.map_append]
  rfl
theorem lst_l (a : Nat → zF) (n : Nat) : (lst a n).length = n := by
  unfold lst
  rw [List.length_map, List.length_range]
theorem lst_g (a : Nat → zF) (n i : Nat) : (lst a n)[i]? = if i < n then some (a i) else none := by
  unfold lst
  rw [List.getElem?_map]
  by_cases h : i < n
  · rw [if_pos h, List.getElem?_range h]
    rfl
  · rw [if_neg h, List.getElem?_eq_none (by rw [List.length_range]; omega)]
    rfl
theorem lst_c {a b : Nat → zF} : ∀ {n : Nat}, (∀ i, i < n → a i = b i) → lst a n = lst b n
  | 0, _ => rfl
  | n + 1, h => by rw [lst_s, lst_s, lst_c (fun i hi => h i (by omega)), h n (by omega)]
theorem lst_m {a : Nat → zF} {n : Nat} {x : zF} : x ∈ lst a n ↔ ∃ i, i < n ∧ a i = x := by
  unfold lst
  rw [List.mem_map]
  constructor
  · rintro ⟨i, h1, h2⟩
    exact ⟨i, List.mem_range.mp h1, h2⟩
  · rintro ⟨i, h1, h2⟩
    exact ⟨i, List.mem_range.mpr h1, h2⟩
def WF3 (x : zF) : Prop := WF x.1 x.2.1 x.2.2
theorem RB.list {t : Nat} {B : zB} {D : zMd} (h : RB t B D) : lst (eB B) B.2.2.2.1 = lst (eD D) D.2.1 ∧ ∀ x ∈ lst (eD D) D.2.1, WF3 x := by
  obtain ⟨h1, h2, h3, h4, h5, h6⟩ := h
  refine ⟨?_, fun x hx => ?_⟩
  · rw [h3]
    refine lst_c (fun i hi => ?_)
    obtain ⟨q1, q2, q3, -⟩ := h6 i hi
    unfold eB eD
    rw [q1, q2, q3]
  · obtain ⟨i, hi, rfl⟩ := lst_m.mp hx
    exact (h6 i hi).2.2.2
theorem RB.ofList {t : Nat} {B : zB} {D : zMd} (h1 : B.2.2.2.2.2 = lN t) (h2 : D.1 = nI t) (h5 : B.2.2.2.2.1 = D.2.2.1) (h4 : D.2.1 ≤ 48) (hl : lst (eB B) B.2.2.2.1 = lst (eD D) D.2.1) (hw : ∀ x ∈ lst (eD D) D.2.1, WF3 x) : RB t B D := by
  have h3 : B.2.2.2.1 = D.2.1 := by
    have := congrArg List.length hl
    rw [lst_l, lst_l] at this
    exact this
  refine ⟨h1, h2, h3, h4, h5, fun i hi => ?_⟩
  have hg := congrArg (fun l => l[i]?) hl
  simp only [lst_g] at hg
  rw [h3, if_pos hi, if_pos hi, Option.some.injEq] at hg
  refine ⟨congrArg (fun x => x.1) hg, congrArg (fun x => x.2.1) hg, congrArg (fun x => x.2.2) hg, hw _ (lst_m.mpr ⟨i, hi, rfl⟩)⟩
theorem shift_l {a : Nat → zF} {b : Nat → zF} {p n : Nat} (hp : p < n) (h : ∀ i, b i = if p ≤ i ∧ i < n - 1 then a (i + 1) else a i) : lst b (n - 1) = (lst a n).eraseIdx p := by
  apply List.ext_getElem?
  intro i
  rw [List.getElem?_eraseIdx, lst_g, lst_g, lst_g, h]
  by_cases h1 : i < p
  · rw [if_pos h1, if_pos (show i < n - 1 by omega), if_pos (show i < n by omega), if_neg (show ¬ (p ≤ i ∧ i < n - 1) by omega)]
  · rw [if_neg h1]
    by_cases h2 : i < n - 1
    · rw [if_pos h2, if_pos (show p ≤ i ∧ i < n - 1 by omega), if_pos (show i + 1 < n by omega)]
    · rw [if_neg h2, if_neg (show ¬ i + 1 < n by omega)]
theorem take_B {B : zB} {p : Nat} (hp : p < B.2.2.2.1) : lst (eB (pc_take B p)) (B.2.2.2.1 - 1) = (lst (eB B) B.2.2.2.1).eraseIdx p := by
  obtain ⟨ids, con, snd, cnt, ovf, now⟩ := B
  refine shift_l hp (fun i => ?_)
  show (pc_shift ids p (cnt - 1) i, pc_shift con p (cnt - 1) i, pc_shift snd p (cnt - 1) i) = _
  unfold pc_shift
  by_cases h : p ≤ i ∧ i < cnt - 1
  · rw [if_pos h, if_pos h, if_pos h, if_pos h]
    rfl
  · rw [if_neg h, if_neg h, if_neg h, if_neg h]
    rfl
theorem take_D {D : zMd} {p : Nat} (hp : p < D.2.1) : lst (eD (pm_take D p)) (D.2.1 - 1) = (lst (eD D) D.2.1).eraseIdx p := by
  obtain ⟨t, fr, lo, I, J⟩ := D
  refine shift_l hp (fun i => ?_)
  show (pc_shift (I 6) p (fr - 1) i, pc_shift (J 7) p (fr - 1) i, pc_shift (I 8) p (fr - 1) i) = _
  unfold pc_shift
  by_cases h : p ≤ i ∧ i < fr - 1
  · rw [if_pos h, if_pos h, if_pos h, if_pos h]
    rfl
  · rw [if_neg h, if_neg h, if_neg h, if_neg h]
    rfl
theorem RB.take {t : Nat} {B : zB} {D : zMd} {p : Nat} (h : RB t B D) (hp : p < D.2.1) : RB t (pc_take B p) (pm_take D p) := by
  have hl := h.list
  have hB := take_B (B := B) (p := p) (by rw [h.2.2.1]; exact hp)
  have hD := take_D hp
  obtain ⟨h1, h2, h3, h4, h5, h6⟩ := h
  refine RB.ofList ?_ ?_ ?_ ?_ ?_ ?_
  · exact h1
  · exact h2
  · exact h5
  · exact Nat.le_trans (Nat.sub_le _ _) h4
  · show lst _ (B.2.2.2.1 - 1) = lst _ (D.2.1 - 1)
    rw [hB, hD, hl.1]
  · intro x hx
    have hx : x ∈ lst (eD (pm_take D p)) (D.2.1 - 1) := hx
    rw [hD] at hx
    exact hl.2 x (List.mem_of_mem_eraseIdx hx)
theorem vw_take {D : zMd} {p f : Nat} : vw (pm_take D p) f = vw D f := by
  obtain ⟨t, fr, lo, I, J⟩ := D
  refine vwI_eq (fun a j h6 h8 _ => ?_) (fun a j h7 _ => ?_)
  · show pm_shI I p (fr - 1) a j = I a j
    unfold pm_shI
    rw [if_neg h6, if_neg h8]
  · show pm_shJ J p (fr - 1) a j = J a j
    unfold pm_shJ
    rw [if_neg h7]
theorem least_lt (ids : Nat → Int32) : ∀ k, pc_least ids k ≤ k
  | 0 => Nat.le_refl 0
  | k + 1 => by
    unfold pc_least
    split
    · exact Nat.le_refl _
    · exact Nat.le_succ_of_le (least_lt ids k)
theorem least_c {a b : Nat → Int32} : ∀ k, (∀ i, i ≤ k → a i = b i) → pc_least a k = pc_least b k
  | 0, _ => rfl
  | k + 1, h => by
    have h1 := least_c k (fun i hi => h i (by omega))
    unfold pc_least
    rw [h1, h (k + 1) (Nat.le_refl _), h (pc_least b k) (Nat.le_succ_of_le (least_lt b k))]
theorem RB.least {t : Nat} {B : zB} {D : zMd} (h : RB t B D) (h0 : ¬ D.2.1 = 0) : B.2.2.2.1 = D.2.1 ∧ pc_least B.1 (B.2.2.2.1 - 1) = pc_least (D.2.2.2.1 6) (D.2.1 - 1) ∧ pc_least (D.2.2.2.1 6) (D.2.1 - 1) < D.2.1 := by
  obtain ⟨h1, h2, h3, h4, h5, h6⟩ := h
  have hl := least_lt (D.2.2.2.1 6) (D.2.1 - 1)
  refine ⟨h3, ?_, by omega⟩
  rw [h3]
  exact least_c _ (fun i hi => (h6 i (by omega)).1)
/-- a function's frames leave -/
def pf3 (s : Int32) (x : zF) : Bool := !decide (x.2.2 = s)
theorem keep_l (s : Int32) (ids : Nat → Int32) (con : Nat → Int64) (snd : Nat → Int32) : ∀ k, (pc_keep s ids con snd k).1 ≤ k ∧ (∀ i, k ≤ i → (pc_keep s ids con snd k).2.1 i = ids i ∧ (pc_keep s ids con snd k).2.2.1 i = con i ∧ (pc_keep s ids con snd k).2.2.2 i = snd i) ∧ lst (fun i => ((pc_keep s ids con snd k).2.1 i, (pc_keep s ids con snd k).2.2.1 i, (pc_keep s ids con snd k).2.2.2 i)) (pc_keep s ids con snd k).1 = (lst (fun i => (ids i, con i, snd i)) k).filter (pf3 s)
  | 0 => ⟨Nat.le_refl 0, fun i _ => ⟨rfl, rfl, rfl⟩, rfl⟩
  | k + 1 => by
    obtain ⟨h1, h2, h3⟩ := keep_l s ids con snd k
    have e : pc_keep s ids con snd (k + 1) = if (pc_keep s ids con snd k).2.2.2 k = s then pc_keep s ids con snd k else ((pc_keep s ids con snd k).1 + 1, upd (pc_keep s ids con snd k).2.1 (pc_keep s ids con snd k).1 ((pc_keep s ids con snd k).2.1 k), vp_updL (pc_keep s ids con snd k).2.2.1 (pc_keep s ids con snd k).1 ((pc_keep s ids con snd k).2.2.1 k), upd (pc_keep s ids con snd k).2.2.2 (pc_keep s ids con snd k).1 ((pc_keep s ids con snd k).2.2.2 k)) := rfl
    generalize pc_keep s ids con snd k = P at *
    obtain ⟨j, i2, c2, s2⟩ := P
    obtain ⟨q1, q2, q3⟩ := h2 k (Nat.le_refl _)
    have q1 : i2 k = ids k := q1
    have q2 : c2 k = con k := q2
    have q3 : s2 k = snd k := q3
    have h1 : j ≤ k := h1
    have h3 : lst (fun i => (i2 i, c2 i, s2 i)) j = (lst (fun i => (ids i, con i, snd i)) k).filter (pf3 s) := h3
    rw [e]
    by_cases hs : s2 k = s
    · rw [if_pos hs]
      refine ⟨by show j ≤ k + 1; omega, fun i hi => h2 i (by omega), ?_⟩
      rw [lst_s, List.filter_append, ← h3]
      have : [(ids k, con k, snd k)].filter (pf3 s) = [] := by
        rw [List.filter_cons_of_neg]
        · rfl
        · unfold pf3
          simp [← q3, hs]
      rw [this, List.append_nil]
    · rw [if_neg hs]
      refine ⟨by show j + 1 ≤ k + 1; omega, fun i hi => ?_, ?_⟩
      · obtain ⟨r1, r2, r3⟩ := h2 i (by omega)
        have hne : ¬ i = j := by omega
        refine ⟨?_, ?_, ?_⟩
        · show upd i2 j (i2 k) i = ids i
          unfold upd
          rw [if_neg hne]
          exact r1
        · show vp_updL c2 j (c2 k) i = con i
          unfold vp_updL
          rw [if_neg hne]
          exact r2
        · show upd s2 j (s2 k) i = snd i
          unfold upd
          rw [if_neg hne]
          exact r3
      · show lst (fun i => (upd i2 j (i2 k) i, vp_updL c2 j (c2 k) i, upd s2 j (s2 k) i)) (j + 1) = _
        rw [lst_s, lst_s, List.filter_append, ← h3]
        have : [(ids k, con k, snd k)].filter (pf3 s) = [(ids k, con k, snd k)] := by
          rw [List.filter_cons_of_pos]
          · rfl
          · unfold pf3
            simp [← q3, hs]
        rw [this]
        congr 1
        · refine lst_c (fun i hi => ?_)
          have hne : ¬ i = j := by omega
          simp only [upd, vp_updL, if_neg hne]
        · simp only [upd, vp_updL, if_true]
          rw [q1, q2, q3]
theorem rm_l {f : Nat} : ∀ (k : Nat) (D : zMd), k ≤ D.2.1 → (pm_rm f k D).1 = D.1 ∧ (pm_rm f k D).2.2.1 = D.2.2.1 ∧ (pm_rm f k D).2.1 ≤ D.2.1 ∧ (∀ g, vw (pm_rm f k D) g = vw D g) ∧ lst (eD (pm_rm f k D)) (pm_rm f k D).2.1 = ((lst (eD D) D.2.1).take k).filter (pf3 (nI f)) ++ (lst (eD D) D.2.1).drop k
  | 0, D, _ => ⟨rfl, rfl, Nat.le_refl _, fun _ => rfl, rfl⟩
  | k + 1, D, hk => by
    have hget : (lst (eD D) D.2.1)[k]? = some (eD D k) := by rw [lst_g, if_pos (by omega)]
    have hlen : k < (lst (eD D) D.2.1).length := by rw [lst_l]; omega
    have hg2 : (lst (eD D) D.2.1)[k] = eD D k := by
      have := List.getElem?_eq_getElem hlen
      rw [hget] at this
      exact (Option.some.inj this).symm
    have htk : (lst (eD D) D.2.1).take (k + 1) = (lst (eD D) D.2.1).take k ++ [eD D k] := by
      rw [List.take_succ, hget]
      rfl
    have hdr : (lst (eD D) D.2.1).drop k = eD D k :: (lst (eD D) D.2.1).drop (k + 1) := by
      rw [List.drop_eq_getElem_cons hlen, hg2]
    by_cases hs : D.2.2.2.1 8 k = nI f
    · have e : pm_rm f (k + 1) D = pm_rm f k (pm_take D k) := by
        show (if D.2.2.2.1 8 k = nI f then _ else _) = _
        rw [if_pos hs]
      have e1 : (pm_take D k).2.1 = D.2.1 - 1 := by
        obtain ⟨t, fr, lo, I, J⟩ := D
        rfl
      have e2 : (pm_take D k).1 = D.1 := by
        obtain ⟨t, fr, lo, I, J⟩ := D
        rfl
      have e3 : (pm_take D k).2.2.1 = D.2.2.1 := by
        obtain ⟨t, fr, lo, I, J⟩ := D
        rfl
      have ih := rm_l (f := f) k (pm_take D k) (by rw [e1]; omega)
      rw [e1, take_D (show k < D.2.1 by omega), List.eraseIdx_eq_take_drop_succ] at ih
      rw [e]
      refine ⟨ih.1.trans e2, ih.2.1.trans e3, by have := ih.2.2.1; omega, fun g => (ih.2.2.2.1 g).trans vw_take, ?_⟩
      rw [ih.2.2.2.2, htk, List.filter_append]
      have h0 : [eD D k].filter (pf3 (nI f)) = [] := by
        rw [List.filter_cons_of_neg]
        · rfl
        · unfold pf3 eD
          simp [hs]
      have hl1 : ((lst (eD D) D.2.1).take k).length = k := by
        rw [List.length_take, lst_l]
        omega
      rw [h0, List.append_nil, List.take_append_of_le_length (by omega), List.take_of_length_le (by omega), List.drop_append_of_le_length (by omega), List.drop_of_length_le (by omega), List.nil_append]
    · have e : pm_rm f (k + 1) D = pm_rm f k D := by
        show (if D.2.2.2.1 8 k = nI f then _ else _) = _
        rw [if_neg hs]
      have ih := rm_l (f := f) k D (by omega)
      rw [e]
      refine ⟨ih.1, ih.2.1, ih.2.2.1, ih.2.2.2.1, ?_⟩
      rw [ih.2.2.2.2, htk, hdr, List.filter_append]
      have h0 : [eD D k].filter (pf3 (nI f)) = [eD D k] := by
        rw [List.filter_cons_of_pos]
        · rfl
        · unfold pf3 eD
          simp [hs]
      rw [h0, List.append_assoc]
      rfl
theorem RB.rm {t f : Nat} {B : zB} {D : zMd} (h : RB t B D) : RB t (pc_takeOf B (nI f)) (pm_rm f D.2.1 D) := by
  have hl := h.list
  obtain ⟨r1, r2, r3, -, r5⟩ := rm_l (f := f) D.2.1 D (Nat.le_refl _)
  obtain ⟨h1, h2, h3, h4, h5, h6⟩ := h
  obtain ⟨ids, con, snd, cnt, ovf, now⟩ := B
  obtain ⟨k1, k2, k3⟩ := keep_l (nI f) ids con snd cnt
  have e : pc_takeOf (ids, con, snd, cnt, ovf, now) (nI f) = ((pc_keep (nI f) ids con snd cnt).2.1, (pc_keep (nI f) ids con snd cnt).2.2.1, (pc_keep (nI f) ids con snd cnt).2.2.2, (pc_keep (nI f) ids con snd cnt).1, ovf, now) := rfl
  have hL : lst (eD (pm_rm f D.2.1 D)) (pm_rm f D.2.1 D).2.1 = (lst (eD D) D.2.1).filter (pf3 (nI f)) := by
    rw [r5, List.take_of_length_le (by rw [lst_l]; exact Nat.le_refl _), List.drop_of_length_le (by rw [lst_l]; exact Nat.le_refl _), List.append_nil]
  rw [e]
  refine RB.ofList h1 (r1.trans h2) (h5.trans r2.symm) (Nat.le_trans r3 h4) ?_ ?_
  · rw [hL, ← hl.1]
    exact k3
  · intro x hx
    rw [hL] at hx
    exact hl.2 x (List.mem_filter.mp hx).1
theorem fr_vw {f : Nat} {D : zMd} (g : Nat) : vw (pm_rm f D.2.1 D) g = vw D g := (rm_l (f := f) D.2.1 D (Nat.le_refl _)).2.2.2.1 g
