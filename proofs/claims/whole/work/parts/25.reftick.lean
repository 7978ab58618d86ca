def pm_due (I : Nat → Nat → Int32) (q : Nat) : Int32 :=
  if q % 4 = 0 then (if I 0 (q / 4) = nI 1 then I 4 (q / 4) else -1) else if q % 4 = 1 then (if I 9 (q / 4) ≤ 0 then -1 else I 16 (q / 4)) else if I 17 (q / 4) ≤ nI (q % 4 - 2) then -1 else I 26 (2 * (q / 4) + q % 4 - 2)
def pm_outOff (D : zMd) (f : Nat) : zMd := match D with
  | (t, fr, lo, I, J) => if I 9 f ≤ nI 1 then
      (match pm_putP (t, fr, lo, I, J) f (I 15 f) with
        | (t1, fr1, lo1, I1, J1) => if I1 15 f = pm_pk (I1 13 f) then pm_fin (t1, fr1, lo1, I1, J1) f (nI 10) else (t1, fr1, lo1, up2 (up2 I1 15 f (I1 15 f + nI 1)) 16 f (t1 + nI 50), J1))
    else pm_fin (pm_putA (t, fr, lo, I, J) f (I 11 f) (nI 3) (I 12 f)) f (nI 11)
def pm_goOff (D : zMd) (q : Nat) : zMd := match D with
  | (t, fr, lo, I, J) => if q % 4 = 0 then (t, fr, lo, up2 I 0 (q / 4) (nI 2), J) else if q % 4 = 1 then pm_outOff (t, fr, lo, I, J) (q / 4)
    else if I 18 (2 * (q / 4) + q % 4 - 2) = 0 then (if I 25 (2 * (q / 4) + q % 4 - 2) = 0 then pm_ask (t, fr, lo, I, J) (q / 4) (2 * (q / 4) + q % 4 - 2) (nI 3) else pm_grant (t, fr, lo, I, J) (q / 4) (2 * (q / 4) + q % 4 - 2))
    else pm_close (t, fr, lo, I, J) (q / 4) (2 * (q / 4) + q % 4 - 2)
def pm_o : Option Nat → Int32
  | none => -1
  | some j => nI j
/-- of the first k timers the one that goes off first, if one is due up to e -/
def pm_pick (I : Nat → Nat → Int32) (e : Int32) : Nat → Option Nat
  | 0 => none
  | k + 1 => match pm_pick I e k with
    | none => if pm_due I k < 0 then none else if e < pm_due I k then none else some k
    | some j => if pm_due I k < 0 then some j else if e < pm_due I k then some j else if pm_due I j ≤ pm_due I k then some j else some k
theorem pm_pick_lt {I : Nat → Nat → Int32} {e : Int32} : ∀ (k j : Nat), pm_pick I e k = some j → j < k
  | 0, j, h => by cases h
  | k + 1, j, h => by
    unfold pm_pick at h
    split at h
    · split at h
      · cases h
      · split at h
        · cases h
        · cases h
          omega
    · rename_i j' hj
      have := pm_pick_lt k j' hj
      split at h
      · cases h; omega
      · split at h
        · cases h; omega
        · split at h
          · cases h; omega
          · cases h; omega
def pm_setNow (D : zMd) (e : Int32) : zMd := (e, D.2)
def pm_offs (m : Nat) (e : Int32) : Nat → Nat → zMd → Option (Nat × zMd)
  | 0, _, _ => none
  | k + 1, c, D => match pm_pick D.2.2.2.1 e m with
    | none => some (c, D)
    | some q => pm_offs m e k (c + 1) (pm_goOff (pm_setNow D (pm_due D.2.2.2.1 q)) q)
theorem pm_offs_none {m : Nat} {e : Int32} {k c c' : Nat} {D D' : zMd} (hz : pm_pick D.2.2.2.1 e m = none) (h : pm_offs m e (k + 1) c D = some (c', D')) : c' = c ∧ D' = D := by
  rw [pm_offs, hz] at h
  simp only at h
  have h2 := Option.some.inj h
  exact ⟨(congrArg Prod.fst h2).symm, (congrArg Prod.snd h2).symm⟩
theorem pm_offs_some {m : Nat} {e : Int32} {k c q : Nat} {D : zMd} {r : Option (Nat × zMd)} (hz : pm_pick D.2.2.2.1 e m = some q) (h : pm_offs m e (k + 1) c D = r) : pm_offs m e k (c + 1) (pm_goOff (pm_setNow D (pm_due D.2.2.2.1 q)) q) = r := by
  rw [pm_offs, hz] at h
  simp only at h
  exact h
def pm_reached (I : Nat → Nat → Int32) (fm tg : Int32) (f : Nat) : Bool := if fm = nI 238 ∨ fm = nI 234 then !decide (I 0 f = 0) else decide (I 0 f = nI 2) && (decide (tg = nI 255) || decide (tg = I 1 f))
def pm_rch (s : Nat) (fm tg src : Int32) (d : Int64) : Nat → zMd → zMd
  | 0, D => D
  | k + 1, D => if k = s then pm_rch s fm tg src d k D else if pm_reached (pm_rch s fm tg src d k D).2.2.2.1 fm tg k = true then pm_reach (pm_rch s fm tg src d k D) k ((pm_rch s fm tg src d k D).2.2.2.1 17 k).toNatClampNeg s fm tg src d else pm_rch s fm tg src d k D
def zm (D : zMd) (f : Nat) : Prop := ∃ c : Nat, c ≤ 2 ∧ D.2.2.2.1 17 f = nI c ∧ (∃ s : Nat, s < 256 ∧ pm_pk (D.2.2.2.1 13 f) = nI s) ∧ ∀ u, 2 * f ≤ u → u < 2 * f + c → ∃ e : Nat, 1 ≤ e ∧ e ≤ 7 ∧ D.2.2.2.1 22 u = nI e
def pm_deliver (D : zMd) (keep : Bool) (s : Nat) : Bool × zMd :=
  if D.2.1 = 0 then (false, D)
  else (true, pm_rch s ((D.2.2.2.1 6 (pc_least (D.2.2.2.1 6) (D.2.1 - 1)) >>> (nI 16 &&& 31)) &&& nI 255) ((D.2.2.2.1 6 (pc_least (D.2.2.2.1 6) (D.2.1 - 1)) >>> (nI 8 &&& 31)) &&& nI 255) (D.2.2.2.1 6 (pc_least (D.2.2.2.1 6) (D.2.1 - 1)) &&& nI 255) (D.2.2.2.2 7 (pc_least (D.2.2.2.1 6) (D.2.1 - 1))) 5 (if keep = true then D else pm_take D (pc_least (D.2.2.2.1 6) (D.2.1 - 1))))
set_option maxRecDepth 100000 in
set_option maxHeartbeats 4000000 in
theorem ok_Md_due {E : zxE} {b n : Nat} {B : zB} {F : Nat → zFn} {D : zMd} {Q : Option Value → zxH → Nat → Prop} {q : Nat} (hq20 : q < 20) (hq : ∀ r, pm_due D.2.2.2.1 q = r → Q (some (.int r)) (zs b (B, F, D)) n) : zx_Ok E my_Md_due mi_Md_due [.ref (b + 71), .int (nI q)] (zs b (B, F, D)) n Q := by
  obtain ⟨t, fr, lo, I, J⟩ := D
  refine zx_start [some (.ref (b + 71)), some (.int (nI q)), none, none] (by decide) rfl rfl (Nat.le_of_ble_eq_true rfl) rfl ?_
  refine zx_iload_n (q := 1) dd_Md_due_0 rfl rfl ?_
  refine zx_iconst (nI 4) (q := 2) dd_Md_due_1 rfl (by decide) ?_
  refine zx_idiv (q := 3) dd_Md_due_2 rfl (by decide) ?_
  refine zx_topi (pk_div (by omega) (by decide) (by decide)) ?_
  refine zx_istore_2 (q := 4) dd_Md_due_3 rfl (by decide) rfl ?_
  refine zx_iload_n (q := 5) dd_Md_due_4 rfl rfl ?_
  refine zx_iconst (nI 4) (q := 6) dd_Md_due_5 rfl (by decide) ?_
  refine zx_irem (q := 7) dd_Md_due_6 rfl (by decide) ?_
  refine zx_topi (pk_rem (by omega) (by decide) (by decide)) ?_
  refine zx_istore_3 (q := 8) dd_Md_due_7 rfl (by decide) rfl ?_
  refine zx_iload_n (q := 9) dd_Md_due_8 rfl rfl ?_
  refine zx_if_ne 33 (q := 12) dd_Md_due_9 rfl (by decide) (fun hc1 => ?_) (fun hc1 => ?_)
  · skip
    replace hc1 : ¬ q % 4 = 0 := fun z => hc1 (by rw [z]; rfl)
    refine zx_iload_n (q := 34) dd_Md_due_33 rfl rfl ?_
    refine zx_iconst (nI 1) (q := 35) dd_Md_due_34 rfl (by decide) ?_
    refine zx_icmp_ne 58 (q := 38) dd_Md_due_35 rfl (by decide) (fun hc2 => ?_) (fun hc2 => ?_)
    · skip
      replace hc2 : ¬ q % 4 = 1 := fun z => hc2 (by rw [z])
      refine zx_iload_n (q := 59) dd_Md_due_58 rfl rfl ?_
      refine zx_iconst (nI 2) (q := 60) dd_Md_due_59 rfl (by decide) ?_
      refine zx_isub (q := 61) dd_Md_due_60 rfl ?_
      refine zx_topi (pk_sub (by omega)) ?_
      refine zx_aload_n (q := 62) dd_Md_due_61 rfl rfl ?_
      refine zx_get (q := 65) dd_Md_due_62 rfl fl_Md_63 at_m rfl ?_
      refine zx_iload_n (q := 66) dd_Md_due_65 rfl rfl ?_
      refine zx_iald (q := 67) dd_Md_due_66 rfl at_m17 rfl (by omega) (by decide) ?_
      refine zx_icmp_ge 85 (q := 70) dd_Md_due_67 rfl (by decide) (fun hc3 => ?_) (fun hc3 => ?_)
      · skip
        refine zx_iconst (-1) (q := 86) dd_Md_due_85 rfl (by decide) ?_
        exact zx_iret dd_Md_due_86 rfl (hq _ (by first | (simp [pm_due, hc1, hc2, hc3]; done) | (clear hq; simp_all [pm_due]; done)))
      · skip
        refine zx_aload_n (q := 71) dd_Md_due_70 rfl rfl ?_
        refine zx_get (q := 74) dd_Md_due_71 rfl fl_Md_90 at_m rfl ?_
        refine zx_iconst (nI 2) (q := 75) dd_Md_due_74 rfl (by decide) ?_
        refine zx_iload_n (q := 76) dd_Md_due_75 rfl rfl ?_
        refine zx_imul (q := 77) dd_Md_due_76 rfl ?_
        refine zx_topi (pk_mul _ _) ?_
        refine zx_iload_n (q := 78) dd_Md_due_77 rfl rfl ?_
        refine zx_iadd (q := 79) dd_Md_due_78 rfl ?_
        refine zx_topi (nI_add _ _) ?_
        refine zx_iconst (nI 2) (q := 80) dd_Md_due_79 rfl (by decide) ?_
        refine zx_isub (q := 81) dd_Md_due_80 rfl ?_
        refine zx_topi (pk_sub (by omega)) ?_
        refine zx_iald (q := 82) dd_Md_due_81 rfl at_m26 rfl (by omega) (by decide) ?_
        refine zx_goto 86 dd_Md_due_82 (by decide) ?_
        exact zx_iret dd_Md_due_86 rfl (hq _ (by first | (simp [pm_due, hc1, hc2, hc3]; done) | (clear hq; simp_all [pm_due]; done)))
    · skip
      replace hc2 : q % 4 = 1 := (nI_eq (by omega) (by decide)).mp hc2
      refine zx_aload_n (q := 39) dd_Md_due_38 rfl rfl ?_
      refine zx_get (q := 42) dd_Md_due_39 rfl fl_Md_39 at_m rfl ?_
      refine zx_iload_n (q := 43) dd_Md_due_42 rfl rfl ?_
      refine zx_iald (q := 44) dd_Md_due_43 rfl at_m9 rfl (by omega) (by decide) ?_
      refine zx_if_le 56 (q := 47) dd_Md_due_44 rfl (by decide) (fun hc4 => ?_) (fun hc4 => ?_)
      · skip
        refine zx_iconst (-1) (q := 57) dd_Md_due_56 rfl (by decide) ?_
        exact zx_iret dd_Md_due_57 rfl (hq _ (by first | (simp [pm_due, hc1, hc2, hc4]; done) | (clear hq; simp_all [pm_due]; done)))
      · skip
        refine zx_aload_n (q := 48) dd_Md_due_47 rfl rfl ?_
        refine zx_get (q := 51) dd_Md_due_48 rfl fl_Md_60 at_m rfl ?_
        refine zx_iload_n (q := 52) dd_Md_due_51 rfl rfl ?_
        refine zx_iald (q := 53) dd_Md_due_52 rfl at_m16 rfl (by omega) (by decide) ?_
        refine zx_goto 57 dd_Md_due_53 (by decide) ?_
        exact zx_iret dd_Md_due_57 rfl (hq _ (by first | (simp [pm_due, hc1, hc2, hc4]; done) | (clear hq; simp_all [pm_due]; done)))
  · skip
    replace hc1 : q % 4 = 0 := (nI_eq (a := q % 4) (b := 0) (by omega) (by decide)).mp hc1
    refine zx_aload_n (q := 13) dd_Md_due_12 rfl rfl ?_
    refine zx_get (q := 16) dd_Md_due_13 rfl fl_Md_7 at_m rfl ?_
    refine zx_iload_n (q := 17) dd_Md_due_16 rfl rfl ?_
    refine zx_iald (q := 18) dd_Md_due_17 rfl at_m0 rfl (by omega) (by decide) ?_
    refine zx_iconst (nI 1) (q := 19) dd_Md_due_18 rfl (by decide) ?_
    refine zx_icmp_ne 31 (q := 22) dd_Md_due_19 rfl (by decide) (fun hc5 => ?_) (fun hc5 => ?_)
    · skip
      refine zx_iconst (-1) (q := 32) dd_Md_due_31 rfl (by decide) ?_
      exact zx_iret dd_Md_due_32 rfl (hq _ (by first | (simp [pm_due, hc1, hc5]; done) | (clear hq; simp_all [pm_due]; done)))
    · skip
      refine zx_aload_n (q := 23) dd_Md_due_22 rfl rfl ?_
      refine zx_get (q := 26) dd_Md_due_23 rfl fl_Md_24 at_m rfl ?_
      refine zx_iload_n (q := 27) dd_Md_due_26 rfl rfl ?_
      refine zx_iald (q := 28) dd_Md_due_27 rfl at_m4 rfl (by omega) (by decide) ?_
      refine zx_goto 32 dd_Md_due_28 (by decide) ?_
      exact zx_iret dd_Md_due_32 rfl (hq _ (by first | (simp [pm_due, hc1, eq_true hc5]; done) | (clear hq; simp_all [pm_due]; done)))
set_option maxRecDepth 100000 in
set_option maxHeartbeats 4000000 in
theorem ok_Md_outgoingOff {E : zxE} {b n : Nat} {B : zB} {F : Nat → zFn} {D : zMd} {Q : Option Value → zxH → Nat → Prop} {f : Nat} (hf : f < 5) (hw : D.2.1 ≤ 48) (hq : ∀ D', pm_outOff D f = D' → D'.2.1 ≤ 48 → Q none (zs b (B, F, D')) n) : zx_Ok E my_Md_outgoingOff mi_Md_outgoingOff [.ref (b + 71), .int (nI f)] (zs b (B, F, D)) n Q := by
  obtain ⟨t, fr, lo, I, J⟩ := D
  refine zx_start [some (.ref (b + 71)), some (.int (nI f))] (by decide) rfl rfl (Nat.le_of_ble_eq_true rfl) rfl ?_
  refine zx_aload_n (q := 1) dd_Md_outgoingOff_0 rfl rfl ?_
  refine zx_get (q := 4) dd_Md_outgoingOff_1 rfl fl_Md_39 at_m rfl ?_
  refine zx_iload_n (q := 5) dd_Md_outgoingOff_4 rfl rfl ?_
  refine zx_iald (q := 6) dd_Md_outgoingOff_5 rfl at_m9 rfl (by omega) (by decide) ?_
  refine zx_iconst (nI 1) (q := 7) dd_Md_outgoingOff_6 rfl (by decide) ?_
  refine zx_icmp_le 36 (q := 10) dd_Md_outgoingOff_7 rfl (by decide) (fun hc1 => ?_) (fun hc1 => ?_)
  · skip
    refine zx_aload_n (q := 37) dd_Md_outgoingOff_36 rfl rfl ?_
    refine zx_iload_n (q := 38) dd_Md_outgoingOff_37 rfl rfl ?_
    refine zx_aload_n (q := 39) dd_Md_outgoingOff_38 rfl rfl ?_
    refine zx_get (q := 42) dd_Md_outgoingOff_39 rfl fl_Md_57 at_m rfl ?_
    refine zx_iload_n (q := 43) dd_Md_outgoingOff_42 rfl rfl ?_
    refine zx_iald (q := 44) dd_Md_outgoingOff_43 rfl at_m15 rfl (by omega) (by decide) ?_
    refine zx_cV2v (q := 47) dd_Md_outgoingOff_44 rfl cv_Md_outgoingOff_194 ⟨rfl, rfl⟩ at_m rfl rfl (Nat.le_of_ble_eq_true rfl) ⟨Nat.zero_le _, Nat.zero_le _⟩ (ok_Md_putPacket hf hw fun D1 he1 hw1 => ⟨rfl, ?_⟩)
    obtain ⟨t1, fr1, lo1, I1, J1⟩ := D1
    refine zx_aload_n (q := 48) dd_Md_outgoingOff_47 rfl rfl ?_
    refine zx_get (q := 51) dd_Md_outgoingOff_48 rfl fl_Md_57 at_m rfl ?_
    refine zx_iload_n (q := 52) dd_Md_outgoingOff_51 rfl rfl ?_
    refine zx_iald (q := 53) dd_Md_outgoingOff_52 rfl at_m15 rfl (by omega) (by decide) ?_
    refine zx_aload_n (q := 54) dd_Md_outgoingOff_53 rfl rfl ?_
    refine zx_get (q := 57) dd_Md_outgoingOff_54 rfl fl_Md_51 at_m rfl ?_
    refine zx_iload_n (q := 58) dd_Md_outgoingOff_57 rfl rfl ?_
    refine zx_iald (q := 59) dd_Md_outgoingOff_58 rfl at_m13 rfl (by omega) (by decide) ?_
    refine zx_cS1i (q := 62) dd_Md_outgoingOff_59 rfl cs_Md_outgoingOff_170 ⟨rfl, rfl⟩ (Nat.le_of_ble_eq_true rfl) ⟨Nat.zero_le _, Nat.zero_le _⟩ (ok_Md_packets ⟨_, rfl, ?_⟩)
    refine zx_icmp_ne 75 (q := 65) dd_Md_outgoingOff_62 rfl (by decide) (fun hc2 => ?_) (fun hc2 => ?_)
    · skip
      refine zx_aload_n (q := 76) dd_Md_outgoingOff_75 rfl rfl ?_
      refine zx_get (q := 79) dd_Md_outgoingOff_76 rfl fl_Md_57 at_m rfl ?_
      refine zx_iload_n (q := 80) dd_Md_outgoingOff_79 rfl rfl ?_
      refine zx_dup2 (q := 81) dd_Md_outgoingOff_80 rfl rfl rfl ?_
      refine zx_iald (q := 82) dd_Md_outgoingOff_81 rfl at_m15 rfl (by omega) (by decide) ?_
      refine zx_iconst (nI 1) (q := 83) dd_Md_outgoingOff_82 rfl (by decide) ?_
      refine zx_iadd (q := 84) dd_Md_outgoingOff_83 rfl ?_
      refine zx_iast (q := 85) dd_Md_outgoingOff_84 rfl at_m15 rfl (by omega) (by decide) up_m15 ?_
      refine zx_aload_n (q := 86) dd_Md_outgoingOff_85 rfl rfl ?_
      refine zx_get (q := 89) dd_Md_outgoingOff_86 rfl fl_Md_60 at_m rfl ?_
      refine zx_iload_n (q := 90) dd_Md_outgoingOff_89 rfl rfl ?_
      refine zx_aload_n (q := 91) dd_Md_outgoingOff_90 rfl rfl ?_
      refine zx_get (q := 94) dd_Md_outgoingOff_91 rfl fl_Md_153 at_m rfl ?_
      refine zx_bipush (nI 50) (q := 96) dd_Md_outgoingOff_94 rfl (by decide) ?_
      refine zx_iadd (q := 97) dd_Md_outgoingOff_96 rfl ?_
      refine zx_iast (q := 98) dd_Md_outgoingOff_97 rfl at_m16 rfl (by omega) (by decide) up_m16 ?_
      exact zx_vret dd_Md_outgoingOff_98 rfl (hq _ (by first | (simp [pm_outOff, hc1, he1, hc2]; done) | (clear hq; simp_all [pm_outOff]; done)) hw1)
    · skip
      refine zx_aload_n (q := 66) dd_Md_outgoingOff_65 rfl rfl ?_
      refine zx_iload_n (q := 67) dd_Md_outgoingOff_66 rfl rfl ?_
      refine zx_bipush (nI 10) (q := 69) dd_Md_outgoingOff_67 rfl (by decide) ?_
      refine zx_cV2v (q := 72) dd_Md_outgoingOff_69 rfl cv_Md_outgoingOff_187 ⟨rfl, rfl⟩ at_m rfl rfl (Nat.le_of_ble_eq_true rfl) ⟨Nat.zero_le _, Nat.zero_le _⟩ (ok_Md_finish hf ⟨rfl, ?_⟩)
      refine zx_goto 98 dd_Md_outgoingOff_72 (by decide) ?_
      exact zx_vret dd_Md_outgoingOff_98 rfl (hq _ (by first | (simp [pm_outOff, hc1, he1, eq_true hc2]; done) | (clear hq; simp_all [pm_outOff]; done)) hw1)
  · skip
    refine zx_aload_n (q := 11) dd_Md_outgoingOff_10 rfl rfl ?_
    refine zx_iload_n (q := 12) dd_Md_outgoingOff_11 rfl rfl ?_
    refine zx_aload_n (q := 13) dd_Md_outgoingOff_12 rfl rfl ?_
    refine zx_get (q := 16) dd_Md_outgoingOff_13 rfl fl_Md_45 at_m rfl ?_
    refine zx_iload_n (q := 17) dd_Md_outgoingOff_16 rfl rfl ?_
    refine zx_iald (q := 18) dd_Md_outgoingOff_17 rfl at_m11 rfl (by omega) (by decide) ?_
    refine zx_iconst (nI 3) (q := 19) dd_Md_outgoingOff_18 rfl (by decide) ?_
    refine zx_aload_n (q := 20) dd_Md_outgoingOff_19 rfl rfl ?_
    refine zx_get (q := 23) dd_Md_outgoingOff_20 rfl fl_Md_48 at_m rfl ?_
    refine zx_iload_n (q := 24) dd_Md_outgoingOff_23 rfl rfl ?_
    refine zx_iald (q := 25) dd_Md_outgoingOff_24 rfl at_m12 rfl (by omega) (by decide) ?_
    refine zx_cV4v (q := 28) dd_Md_outgoingOff_25 rfl cv_Md_outgoingOff_197 ⟨rfl, rfl⟩ at_m rfl rfl (Nat.le_of_ble_eq_true rfl) ⟨Nat.zero_le _, Nat.zero_le _⟩ (ok_Md_putAbort hf hw fun D2 he2 hw2 => ⟨rfl, ?_⟩)
    obtain ⟨t2, fr2, lo2, I2, J2⟩ := D2
    refine zx_aload_n (q := 29) dd_Md_outgoingOff_28 rfl rfl ?_
    refine zx_iload_n (q := 30) dd_Md_outgoingOff_29 rfl rfl ?_
    refine zx_bipush (nI 11) (q := 32) dd_Md_outgoingOff_30 rfl (by decide) ?_
    refine zx_cV2v (q := 35) dd_Md_outgoingOff_32 rfl cv_Md_outgoingOff_187 ⟨rfl, rfl⟩ at_m rfl rfl (Nat.le_of_ble_eq_true rfl) ⟨Nat.zero_le _, Nat.zero_le _⟩ (ok_Md_finish hf ⟨rfl, ?_⟩)
    exact zx_vret dd_Md_outgoingOff_35 rfl (hq _ (by first | (simp [pm_outOff, hc1, he2]; done) | (clear hq; simp_all [pm_outOff]; done)) hw2)
set_option maxRecDepth 100000 in
set_option maxHeartbeats 4000000 in
theorem ok_Md_goOff {E : zxE} {b n : Nat} {B : zB} {F : Nat → zFn} {D : zMd} {Q : Option Value → zxH → Nat → Prop} {q : Nat} (hq20 : q < 20) (hw : D.2.1 ≤ 48) (hq : ∀ D', pm_goOff D q = D' → D'.2.1 ≤ 48 → Q none (zs b (B, F, D')) n) : zx_Ok E my_Md_goOff mi_Md_goOff [.ref (b + 71), .int (nI q)] (zs b (B, F, D)) n Q := by
  obtain ⟨t, fr, lo, I, J⟩ := D
  refine zx_start [some (.ref (b + 71)), some (.int (nI q)), none, none, none] (by decide) rfl rfl (Nat.le_of_ble_eq_true rfl) rfl ?_
  refine zx_iload_n (q := 1) dd_Md_goOff_0 rfl rfl ?_
  refine zx_iconst (nI 4) (q := 2) dd_Md_goOff_1 rfl (by decide) ?_
  refine zx_idiv (q := 3) dd_Md_goOff_2 rfl (by decide) ?_
  refine zx_topi (pk_div (by omega) (by decide) (by decide)) ?_
  refine zx_istore_2 (q := 4) dd_Md_goOff_3 rfl (by decide) rfl ?_
  refine zx_iload_n (q := 5) dd_Md_goOff_4 rfl rfl ?_
  refine zx_iconst (nI 4) (q := 6) dd_Md_goOff_5 rfl (by decide) ?_
  refine zx_irem (q := 7) dd_Md_goOff_6 rfl (by decide) ?_
  refine zx_topi (pk_rem (by omega) (by decide) (by decide)) ?_
  refine zx_istore_3 (q := 8) dd_Md_goOff_7 rfl (by decide) rfl ?_
  refine zx_iload_n (q := 9) dd_Md_goOff_8 rfl rfl ?_
  refine zx_if_ne 22 (q := 12) dd_Md_goOff_9 rfl (by decide) (fun hc1 => ?_) (fun hc1 => ?_)
  · skip
    replace hc1 : ¬ q % 4 = 0 := fun z => hc1 (by rw [z]; rfl)
    refine zx_iload_n (q := 23) dd_Md_goOff_22 rfl rfl ?_
    refine zx_iconst (nI 1) (q := 24) dd_Md_goOff_23 rfl (by decide) ?_
    refine zx_icmp_ne 35 (q := 27) dd_Md_goOff_24 rfl (by decide) (fun hc2 => ?_) (fun hc2 => ?_)
    · skip
      replace hc2 : ¬ q % 4 = 1 := fun z => hc2 (by rw [z])
      refine zx_iconst (nI 2) (q := 36) dd_Md_goOff_35 rfl (by decide) ?_
      refine zx_iload_n (q := 37) dd_Md_goOff_36 rfl rfl ?_
      refine zx_imul (q := 38) dd_Md_goOff_37 rfl ?_
      refine zx_topi (pk_mul _ _) ?_
      refine zx_iload_n (q := 39) dd_Md_goOff_38 rfl rfl ?_
      refine zx_iadd (q := 40) dd_Md_goOff_39 rfl ?_
      refine zx_topi (nI_add _ _) ?_
      refine zx_iconst (nI 2) (q := 41) dd_Md_goOff_40 rfl (by decide) ?_
      refine zx_isub (q := 42) dd_Md_goOff_41 rfl ?_
      refine zx_topi (pk_sub (by omega)) ?_
      refine zx_istore_4 (q := 44) dd_Md_goOff_42 rfl (by decide) rfl ?_
      refine zx_aload_n (q := 45) dd_Md_goOff_44 rfl rfl ?_
      refine zx_get (q := 48) dd_Md_goOff_45 rfl fl_Md_66 at_m rfl ?_
      refine zx_iload (q := 50) dd_Md_goOff_48 rfl rfl ?_
      refine zx_zald (q := 51) dd_Md_goOff_50 rfl at_m18 rfl (by omega) (by decide) ?_
      refine zx_if_eq 64 (q := 54) dd_Md_goOff_51 rfl (by decide) (fun hc3 => ?_) (fun hc3 => ?_)
      · skip
        refine zx_aload_n (q := 65) dd_Md_goOff_64 rfl rfl ?_
        refine zx_get (q := 68) dd_Md_goOff_65 rfl fl_Md_87 at_m rfl ?_
        refine zx_iload (q := 70) dd_Md_goOff_68 rfl rfl ?_
        refine zx_zald (q := 71) dd_Md_goOff_70 rfl at_m25 rfl (by omega) (by decide) ?_
        refine zx_if_eq 84 (q := 74) dd_Md_goOff_71 rfl (by decide) (fun hc4 => ?_) (fun hc4 => ?_)
        · skip
          refine zx_aload_n (q := 85) dd_Md_goOff_84 rfl rfl ?_
          refine zx_iload_n (q := 86) dd_Md_goOff_85 rfl rfl ?_
          refine zx_iload (q := 88) dd_Md_goOff_86 rfl rfl ?_
          refine zx_iconst (nI 3) (q := 89) dd_Md_goOff_88 rfl (by decide) ?_
          refine zx_cV3v (q := 92) dd_Md_goOff_89 rfl cv_Md_goOff_207 ⟨rfl, rfl⟩ at_m rfl rfl (Nat.le_of_ble_eq_true rfl) ⟨Nat.zero_le _, Nat.zero_le _⟩ (ok_Md_askAgain (by omega) (by omega) hw fun D3 he3 hw3 => ⟨rfl, ?_⟩)
          obtain ⟨t3, fr3, lo3, I3, J3⟩ := D3
          exact zx_vret dd_Md_goOff_92 rfl (hq _ (by first | (simp [pm_goOff, hc1, hc2, eq_true hc3, eq_true hc4, he3]; done) | (clear hq; simp_all [pm_goOff]; done)) hw3)
        · skip
          refine zx_aload_n (q := 75) dd_Md_goOff_74 rfl rfl ?_
          refine zx_iload_n (q := 76) dd_Md_goOff_75 rfl rfl ?_
          refine zx_iload (q := 78) dd_Md_goOff_76 rfl rfl ?_
          refine zx_cV2v (q := 81) dd_Md_goOff_78 rfl cv_Md_goOff_201 ⟨rfl, rfl⟩ at_m rfl rfl (Nat.le_of_ble_eq_true rfl) ⟨Nat.zero_le _, Nat.zero_le _⟩ (ok_Md_grant (by omega) (by omega) hw fun D4 he4 hw4 => ⟨rfl, ?_⟩)
          obtain ⟨t4, fr4, lo4, I4, J4⟩ := D4
          refine zx_goto 92 dd_Md_goOff_81 (by decide) ?_
          exact zx_vret dd_Md_goOff_92 rfl (hq _ (by first | (simp [pm_goOff, hc1, hc2, eq_true hc3, hc4, he4]; done) | (clear hq; simp_all [pm_goOff]; done)) hw4)
      · skip
        refine zx_aload_n (q := 55) dd_Md_goOff_54 rfl rfl ?_
        refine zx_iload_n (q := 56) dd_Md_goOff_55 rfl rfl ?_
        refine zx_iload (q := 58) dd_Md_goOff_56 rfl rfl ?_
        refine zx_cV2v (q := 61) dd_Md_goOff_58 rfl cv_Md_goOff_191 ⟨rfl, rfl⟩ at_m rfl rfl (Nat.le_of_ble_eq_true rfl) ⟨Nat.zero_le _, Nat.zero_le _⟩ (ok_Md_close (by omega) (by omega) hw fun D5 he5 hw5 => ⟨rfl, ?_⟩)
        obtain ⟨t5, fr5, lo5, I5, J5⟩ := D5
        refine zx_goto 92 dd_Md_goOff_61 (by decide) ?_
        exact zx_vret dd_Md_goOff_92 rfl (hq _ (by first | (simp [pm_goOff, hc1, hc2, hc3, he5]; done) | (clear hq; simp_all [pm_goOff]; done)) hw5)
    · skip
      replace hc2 : q % 4 = 1 := (nI_eq (by omega) (by decide)).mp hc2
      refine zx_aload_n (q := 28) dd_Md_goOff_27 rfl rfl ?_
      refine zx_iload_n (q := 29) dd_Md_goOff_28 rfl rfl ?_
      refine zx_cV1v (q := 32) dd_Md_goOff_29 rfl cv_Md_goOff_210 ⟨rfl, rfl⟩ at_m rfl rfl (Nat.le_of_ble_eq_true rfl) ⟨Nat.zero_le _, Nat.zero_le _⟩ (ok_Md_outgoingOff (by omega) hw fun D6 he6 hw6 => ⟨rfl, ?_⟩)
      obtain ⟨t6, fr6, lo6, I6, J6⟩ := D6
      refine zx_goto 92 dd_Md_goOff_32 (by decide) ?_
      exact zx_vret dd_Md_goOff_92 rfl (hq _ (by first | (simp [pm_goOff, hc1, hc2, he6]; done) | (clear hq; simp_all [pm_goOff]; done)) hw6)
  · skip
    replace hc1 : q % 4 = 0 := (nI_eq (a := q % 4) (b := 0) (by omega) (by decide)).mp hc1
    refine zx_aload_n (q := 13) dd_Md_goOff_12 rfl rfl ?_
    refine zx_get (q := 16) dd_Md_goOff_13 rfl fl_Md_7 at_m rfl ?_
    refine zx_iload_n (q := 17) dd_Md_goOff_16 rfl rfl ?_
    refine zx_iconst (nI 2) (q := 18) dd_Md_goOff_17 rfl (by decide) ?_
    refine zx_iast (q := 19) dd_Md_goOff_18 rfl at_m0 rfl (by omega) (by decide) up_m0 ?_
    refine zx_goto 92 dd_Md_goOff_19 (by decide) ?_
    exact zx_vret dd_Md_goOff_92 rfl (hq _ (by first | (simp [pm_goOff, hc1]; done) | (clear hq; simp_all [pm_goOff]; done)) hw)
set_option maxRecDepth 100000 in
set_option maxHeartbeats 4000000 in
theorem lo_Md_tick {E : zxE} {b n : Nat} {B : zB} {F : Nat → zFn} {Q : Option Value → zxH → Nat → Prop} {t lo : Int32} {fr : Nat} {I : Nat → Nat → Int32} {J : Nat → Nat → Int64} {ms e cc : Int32} (hr : zx_X E mi_Md_tick (zx_Y E mi_Md_tick Q) 93 [some (.ref (b + 71)), some (.int ms), some (.int e), some (.int cc), some (.int (pm_o (pm_pick I e 20))), some (.int (nI 20))] [] (zs b (B, F, (t, fr, lo, I, J))) n 0 0) : ∀ k i : Nat, i + k = 20 → zx_X E mi_Md_tick (zx_Y E mi_Md_tick Q) 37 [some (.ref (b + 71)), some (.int ms), some (.int e), some (.int cc), some (.int (pm_o (pm_pick I e i))), some (.int (nI i))] [] (zs b (B, F, (t, fr, lo, I, J))) n 0 0 := by
  intro k
  induction k with
  | zero =>
    intro i h2
    have h3 : i = 20 := by omega
    subst h3
    refine zx_iload (q := 39) dd_Md_tick_37 rfl rfl ?_
    refine zx_bipush (nI 20) (q := 41) dd_Md_tick_39 rfl (by decide) ?_
    refine zx_icmp_ge 93 (q := 44) dd_Md_tick_41 rfl (by decide) (fun hc1 => ?_) (fun hc1 => absurd (by decide) hc1)
    exact hr
  | succ k ih =>
    intro i h2
    have ih := ih (i + 1) (by omega)
    have hsx : pm_pick I e (i + 1) = (match pm_pick I e i with | none => if pm_due I i < 0 then none else if e < pm_due I i then none else some i | some j => if pm_due I i < 0 then some j else if e < pm_due I i then some j else if pm_due I j ≤ pm_due I i then some j else some i) := rfl
    cases hz : pm_pick I e i with
    | none =>
      rw [hz] at hsx
      simp only at hsx
      rw [hsx] at ih
      refine zx_iload (q := 39) dd_Md_tick_37 rfl rfl ?_
      refine zx_bipush (nI 20) (q := 41) dd_Md_tick_39 rfl (by decide) ?_
      refine zx_icmp_ge 93 (q := 44) dd_Md_tick_41 rfl (by decide) (fun hc1 => absurd hc1 (fun z => absurd ((nI_leI (by decide) (by omega)).mp z) (by omega))) (fun hc1 => ?_)
      refine zx_aload_n (q := 45) dd_Md_tick_44 rfl rfl ?_
      refine zx_iload (q := 47) dd_Md_tick_45 rfl rfl ?_
      refine zx_cV1i (q := 50) dd_Md_tick_47 rfl cv_Md_tick_213 ⟨rfl, rfl⟩ at_m rfl rfl (Nat.le_of_ble_eq_true rfl) ⟨Nat.zero_le _, Nat.zero_le _⟩ (ok_Md_due (by omega) fun r7 he7 => ⟨_, rfl, ?_⟩)
      subst he7
      refine zx_if_lt 87 (q := 53) dd_Md_tick_50 rfl (by decide) (fun hc2 => ?_) (fun hc2 => ?_)
      · skip
        refine zx_iincN_5 (q := 90) dd_Md_tick_87 rfl (by decide) rfl ?_
        refine zx_goto 37 dd_Md_tick_90 (by decide) ?_
        simp only [hc2, if_true, if_false, not_true_eq_false, not_false_eq_true, ↓reduceIte] at ih
        exact ih
      · skip
        refine zx_aload_n (q := 54) dd_Md_tick_53 rfl rfl ?_
        refine zx_iload (q := 56) dd_Md_tick_54 rfl rfl ?_
        refine zx_cV1i (q := 59) dd_Md_tick_56 rfl cv_Md_tick_213 ⟨rfl, rfl⟩ at_m rfl rfl (Nat.le_of_ble_eq_true rfl) ⟨Nat.zero_le _, Nat.zero_le _⟩ (ok_Md_due (by omega) fun r8 he8 => ⟨_, rfl, ?_⟩)
        subst he8
        refine zx_iload_n (q := 60) dd_Md_tick_59 rfl rfl ?_
        refine zx_icmp_gt 87 (q := 63) dd_Md_tick_60 rfl (by decide) (fun hc3 => ?_) (fun hc3 => ?_)
        · skip
          refine zx_iincN_5 (q := 90) dd_Md_tick_87 rfl (by decide) rfl ?_
          refine zx_goto 37 dd_Md_tick_90 (by decide) ?_
          simp only [hc2, hc3, if_true, if_false, not_true_eq_false, not_false_eq_true, ↓reduceIte] at ih
          exact ih
        · skip
          refine zx_iload (q := 65) dd_Md_tick_63 rfl rfl ?_
          refine zx_if_lt 83 (q := 68) dd_Md_tick_65 rfl (by decide) (fun hc4 => ?_) (fun hc4 => absurd (by decide) hc4)
          refine zx_iload (q := 85) dd_Md_tick_83 rfl rfl ?_
          refine zx_istore_4 (q := 87) dd_Md_tick_85 rfl (by decide) rfl ?_
          refine zx_iincN_5 (q := 90) dd_Md_tick_87 rfl (by decide) rfl ?_
          refine zx_goto 37 dd_Md_tick_90 (by decide) ?_
          simp only [hc2, hc3, if_true, if_false, not_true_eq_false, not_false_eq_true, ↓reduceIte] at ih
          exact ih
    | some j =>
      have hj := pm_pick_lt _ _ hz
      rw [hz] at hsx
      simp only at hsx
      rw [hsx] at ih
      refine zx_iload (q := 39) dd_Md_tick_37 rfl rfl ?_
      refine zx_bipush (nI 20) (q := 41) dd_Md_tick_39 rfl (by decide) ?_
      refine zx_icmp_ge 93 (q := 44) dd_Md_tick_41 rfl (by decide) (fun hc1 => absurd hc1 (fun z => absurd ((nI_leI (by decide) (by omega)).mp z) (by omega))) (fun hc1 => ?_)
      refine zx_aload_n (q := 45) dd_Md_tick_44 rfl rfl ?_
      refine zx_iload (q := 47) dd_Md_tick_45 rfl rfl ?_
      refine zx_cV1i (q := 50) dd_Md_tick_47 rfl cv_Md_tick_213 ⟨rfl, rfl⟩ at_m rfl rfl (Nat.le_of_ble_eq_true rfl) ⟨Nat.zero_le _, Nat.zero_le _⟩ (ok_Md_due (by omega) fun r9 he9 => ⟨_, rfl, ?_⟩)
      subst he9
      refine zx_if_lt 87 (q := 53) dd_Md_tick_50 rfl (by decide) (fun hc2 => ?_) (fun hc2 => ?_)
      · skip
        refine zx_iincN_5 (q := 90) dd_Md_tick_87 rfl (by decide) rfl ?_
        refine zx_goto 37 dd_Md_tick_90 (by decide) ?_
        simp only [hc2, if_true, if_false, not_true_eq_false, not_false_eq_true, ↓reduceIte] at ih
        exact ih
      · skip
        refine zx_aload_n (q := 54) dd_Md_tick_53 rfl rfl ?_
        refine zx_iload (q := 56) dd_Md_tick_54 rfl rfl ?_
        refine zx_cV1i (q := 59) dd_Md_tick_56 rfl cv_Md_tick_213 ⟨rfl, rfl⟩ at_m rfl rfl (Nat.le_of_ble_eq_true rfl) ⟨Nat.zero_le _, Nat.zero_le _⟩ (ok_Md_due (by omega) fun r10 he10 => ⟨_, rfl, ?_⟩)
        subst he10
        refine zx_iload_n (q := 60) dd_Md_tick_59 rfl rfl ?_
        refine zx_icmp_gt 87 (q := 63) dd_Md_tick_60 rfl (by decide) (fun hc3 => ?_) (fun hc3 => ?_)
        · skip
          refine zx_iincN_5 (q := 90) dd_Md_tick_87 rfl (by decide) rfl ?_
          refine zx_goto 37 dd_Md_tick_90 (by decide) ?_
          simp only [hc2, hc3, if_true, if_false, not_true_eq_false, not_false_eq_true, ↓reduceIte] at ih
          exact ih
        · skip
          refine zx_iload (q := 65) dd_Md_tick_63 rfl rfl ?_
          refine zx_if_lt 83 (q := 68) dd_Md_tick_65 rfl (by decide) (fun hc4 => absurd hc4 (nI_pos (by omega))) (fun hc4 => ?_)
          refine zx_aload_n (q := 69) dd_Md_tick_68 rfl rfl ?_
          refine zx_iload (q := 71) dd_Md_tick_69 rfl rfl ?_
          refine zx_cV1i (q := 74) dd_Md_tick_71 rfl cv_Md_tick_213 ⟨rfl, rfl⟩ at_m rfl rfl (Nat.le_of_ble_eq_true rfl) ⟨Nat.zero_le _, Nat.zero_le _⟩ (ok_Md_due (by omega) fun r11 he11 => ⟨_, rfl, ?_⟩)
          subst he11
          refine zx_aload_n (q := 75) dd_Md_tick_74 rfl rfl ?_
          refine zx_iload (q := 77) dd_Md_tick_75 rfl rfl ?_
          refine zx_cV1i (q := 80) dd_Md_tick_77 rfl cv_Md_tick_213 ⟨rfl, rfl⟩ at_m rfl rfl (Nat.le_of_ble_eq_true rfl) ⟨Nat.zero_le _, Nat.zero_le _⟩ (ok_Md_due (by omega) fun r12 he12 => ⟨_, rfl, ?_⟩)
          subst he12
          refine zx_icmp_ge 87 (q := 83) dd_Md_tick_80 rfl (by decide) (fun hc5 => ?_) (fun hc5 => ?_)
          · skip
            refine zx_iincN_5 (q := 90) dd_Md_tick_87 rfl (by decide) rfl ?_
            refine zx_goto 37 dd_Md_tick_90 (by decide) ?_
            simp only [hc2, hc3, hc5, if_true, if_false, not_true_eq_false, not_false_eq_true, ↓reduceIte] at ih
            exact ih
          · skip
            refine zx_iload (q := 85) dd_Md_tick_83 rfl rfl ?_
            refine zx_istore_4 (q := 87) dd_Md_tick_85 rfl (by decide) rfl ?_
            refine zx_iincN_5 (q := 90) dd_Md_tick_87 rfl (by decide) rfl ?_
            refine zx_goto 37 dd_Md_tick_90 (by decide) ?_
            simp only [hc2, hc3, hc5, if_true, if_false, not_true_eq_false, not_false_eq_true, ↓reduceIte] at ih
            exact ih
set_option maxRecDepth 100000 in
set_option maxHeartbeats 4000000 in
theorem lo_Md_tick2 {E : zxE} {b n : Nat} {B : zB} {F : Nat → zFn} {Q : Option Value → zxH → Nat → Prop} {ms e : Int32} {c' : Nat} {D' : zMd} (hq : Q (some (.int (nI c'))) (zs b (B, F, pm_setNow D' e)) n) : ∀ (N c j : Nat) (D : zMd), j < 20 → D.2.1 ≤ 48 → pm_offs 20 e N c D = some (c', D') → zx_X E mi_Md_tick (zx_Y E mi_Md_tick Q) 26 [some (.ref (b + 71)), some (.int ms), some (.int e), some (.int (nI c)), some (.int (nI j)), none] [] (zs b (B, F, D)) n 0 0 := by
  intro N
  induction N with
  | zero =>
    intro c j D hj hw h
    cases h
  | succ N ih =>
    intro c j D hj hw h
    obtain ⟨t, fr, lo, I, J⟩ := D
    refine zx_iload (q := 28) dd_Md_tick_26 rfl rfl ?_
    refine zx_if_lt 120 (q := 31) dd_Md_tick_28 rfl (by decide) (fun hc1 => absurd hc1 (nI_pos (by omega))) (fun hc1 => ?_)
    refine zx_iconst (-1) (q := 32) dd_Md_tick_31 rfl (by decide) ?_
    refine zx_istore_4 (q := 34) dd_Md_tick_32 rfl (by decide) rfl ?_
    refine zx_iconst (nI 0) (q := 35) dd_Md_tick_34 rfl (by decide) ?_
    refine zx_istore_5 (q := 37) dd_Md_tick_35 rfl (by decide) rfl ?_
    refine (fun hr => lo_Md_tick hr 20 0 (by omega)) ?_
    cases hz : pm_pick I e 20 with
    | none =>
      obtain ⟨e1, e2⟩ := pm_offs_none (D := (t, fr, lo, I, J)) hz h
      subst e1
      subst e2
      refine zx_iload (q := 95) dd_Md_tick_93 rfl rfl ?_
      refine zx_if_lt 26 (q := 98) dd_Md_tick_95 rfl (by decide) (fun hc2 => ?_) (fun hc2 => absurd (by decide) hc2)
      refine zx_iload (q := 28) dd_Md_tick_26 rfl rfl ?_
      refine zx_if_lt 120 (q := 31) dd_Md_tick_28 rfl (by decide) (fun hc3 => ?_) (fun hc3 => absurd (by decide) hc3)
      refine zx_aload_n (q := 121) dd_Md_tick_120 rfl rfl ?_
      refine zx_iload_n (q := 122) dd_Md_tick_121 rfl rfl ?_
      refine zx_put (q := 125) dd_Md_tick_122 rfl fl_Md_153 at_m rfl rfl (Nat.le_of_ble_eq_true rfl) up_m ?_
      refine zx_iload_n (q := 126) dd_Md_tick_125 rfl rfl ?_
      exact zx_iret dd_Md_tick_126 rfl hq
    | some q =>
      have hq2 := pm_pick_lt _ _ hz
      have h := pm_offs_some (D := (t, fr, lo, I, J)) hz h
      refine zx_iload (q := 95) dd_Md_tick_93 rfl rfl ?_
      refine zx_if_lt 26 (q := 98) dd_Md_tick_95 rfl (by decide) (fun hc4 => absurd hc4 (nI_pos (by omega))) (fun hc4 => ?_)
      refine zx_aload_n (q := 99) dd_Md_tick_98 rfl rfl ?_
      refine zx_aload_n (q := 100) dd_Md_tick_99 rfl rfl ?_
      refine zx_iload (q := 102) dd_Md_tick_100 rfl rfl ?_
      refine zx_cV1i (q := 105) dd_Md_tick_102 rfl cv_Md_tick_213 ⟨rfl, rfl⟩ at_m rfl rfl (Nat.le_of_ble_eq_true rfl) ⟨Nat.zero_le _, Nat.zero_le _⟩ (ok_Md_due hq2 fun r13 he13 => ⟨_, rfl, ?_⟩)
      subst he13
      refine zx_put (q := 108) dd_Md_tick_105 rfl fl_Md_153 at_m rfl rfl (Nat.le_of_ble_eq_true rfl) up_m ?_
      refine zx_aload_n (q := 109) dd_Md_tick_108 rfl rfl ?_
      refine zx_iload (q := 111) dd_Md_tick_109 rfl rfl ?_
      refine zx_cV1v (q := 114) dd_Md_tick_111 rfl cv_Md_tick_216 ⟨rfl, rfl⟩ at_m rfl rfl (Nat.le_of_ble_eq_true rfl) ⟨Nat.zero_le _, Nat.zero_le _⟩ (ok_Md_goOff hq2 hw fun D14 he14 hw14 => ⟨rfl, ?_⟩)
      obtain ⟨t14, fr14, lo14, I14, J14⟩ := D14
      refine zx_iincN_3 (q := 117) dd_Md_tick_114 rfl (by decide) rfl ?_
      refine zx_goto 26 dd_Md_tick_117 (by decide) ?_
      refine zx_fg (zx_fgp [_, _, _, _, _] _ 1) ?_
      exact ih (c + 1) q _ hq2 hw14 (by rw [← he14]; exact h)
set_option maxRecDepth 100000 in
set_option maxHeartbeats 4000000 in
theorem ok_Md_tick {E : zxE} {b n : Nat} {B : zB} {F : Nat → zFn} {D : zMd} {Q : Option Value → zxH → Nat → Prop} {ms : Int32} (hw : D.2.1 ≤ 48) (hq1 : (ms < nI 1 ∨ ¬ ms ≤ nI 2000) → Q (some (.int (-1))) (zs b (B, F, D)) n) (hN : ¬ ms < nI 1 → ms ≤ nI 2000 → ∃ (N c' : Nat) (D' : zMd), pm_offs 20 (D.1 + ms) N 0 D = some (c', D') ∧ Q (some (.int (nI c'))) (zs b (B, F, pm_setNow D' (D.1 + ms))) n) : zx_Ok E my_Md_tick mi_Md_tick [.ref (b + 71), .int ms] (zs b (B, F, D)) n Q := by
  obtain ⟨t, fr, lo, I, J⟩ := D
  refine zx_start [some (.ref (b + 71)), some (.int ms), none, none, none, none] (by decide) rfl rfl (Nat.le_of_ble_eq_true rfl) rfl ?_
  refine zx_iload_n (q := 1) dd_Md_tick_0 rfl rfl ?_
  refine zx_iconst (nI 1) (q := 2) dd_Md_tick_1 rfl (by decide) ?_
  refine zx_icmp_lt 12 (q := 5) dd_Md_tick_2 rfl (by decide) (fun hc1 => ?_) (fun hc1 => ?_)
  · skip
    refine zx_iconst (-1) (q := 13) dd_Md_tick_12 rfl (by decide) ?_
    exact zx_iret dd_Md_tick_13 rfl (hq1 (by left; exact hc1))
  · skip
    refine zx_iload_n (q := 6) dd_Md_tick_5 rfl rfl ?_
    refine zx_sipush (nI 2000) (q := 9) dd_Md_tick_6 rfl (by decide) ?_
    refine zx_icmp_le 14 (q := 12) dd_Md_tick_9 rfl (by decide) (fun hc2 => ?_) (fun hc2 => ?_)
    · skip
      refine zx_aload_n (q := 15) dd_Md_tick_14 rfl rfl ?_
      refine zx_get (q := 18) dd_Md_tick_15 rfl fl_Md_153 at_m rfl ?_
      refine zx_iload_n (q := 19) dd_Md_tick_18 rfl rfl ?_
      refine zx_iadd (q := 20) dd_Md_tick_19 rfl ?_
      refine zx_istore_2 (q := 21) dd_Md_tick_20 rfl (by decide) rfl ?_
      refine zx_iconst (nI 0) (q := 22) dd_Md_tick_21 rfl (by decide) ?_
      refine zx_istore_3 (q := 23) dd_Md_tick_22 rfl (by decide) rfl ?_
      refine zx_iconst (nI 0) (q := 24) dd_Md_tick_23 rfl (by decide) ?_
      refine zx_istore_4 (q := 26) dd_Md_tick_24 rfl (by decide) rfl ?_
      obtain ⟨N, c', D', h1, h2⟩ := hN hc1 hc2
      exact lo_Md_tick2 h2 N 0 0 _ (by omega) hw h1
    · skip
      refine zx_iconst (-1) (q := 13) dd_Md_tick_12 rfl (by decide) ?_
      exact zx_iret dd_Md_tick_13 rfl (hq1 (by right; exact hc2))
