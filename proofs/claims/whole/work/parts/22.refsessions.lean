set_option maxRecDepth 100000 in
set_option maxHeartbeats 4000000 in
theorem lo_Md_find {E : zxE} {b n : Nat} {B : zB} {F : Nat → zFn} {Q : Option Value → zxH → Nat → Prop} {t lo : Int32} {fr : Nat} {I : Nat → Nat → Int32} {J : Nat → Nat → Int64} {f c : Nat} {src al : Int32} (hf : f < 5) (hc : c ≤ 2) (hins : I 17 f = nI c) : ∀ k s : Nat, 2 * f ≤ s → s + k = 2 * f + c → (∀ r, pm_findK I src al k s = r → Q (some (.int r)) (zs b (B, F, (t, fr, lo, I, J))) n) → zx_X E mi_Md_find (zx_Y E mi_Md_find Q) 5 [some (.ref (b + 71)), some (.int (nI f)), some (.int src), some (.int al), some (.int (nI s))] [] (zs b (B, F, (t, fr, lo, I, J))) n 0 0 := by
  intro k
  induction k with
  | zero =>
    intro s h1 h2 hq
    refine zx_iload (q := 7) dd_Md_find_5 rfl rfl ?_
    refine zx_iconst (nI 2) (q := 8) dd_Md_find_7 rfl (by decide) ?_
    refine zx_iload_n (q := 9) dd_Md_find_8 rfl rfl ?_
    refine zx_imul (q := 10) dd_Md_find_9 rfl ?_
    refine zx_topi (pk_mul _ _) ?_
    refine zx_aload_n (q := 11) dd_Md_find_10 rfl rfl ?_
    refine zx_get (q := 14) dd_Md_find_11 rfl fl_Md_63 at_m rfl ?_
    refine zx_iload_n (q := 15) dd_Md_find_14 rfl rfl ?_
    refine zx_iald (q := 16) dd_Md_find_15 rfl at_m17 rfl (by omega) (by decide) ?_
    refine zx_topi hins ?_
    refine zx_iadd (q := 17) dd_Md_find_16 rfl ?_
    refine zx_topi (nI_add _ _) ?_
    refine zx_icmp_ge 51 (q := 20) dd_Md_find_17 rfl (by decide) (fun hc1 => ?_) (fun hc1 => absurd ((nI_leI (by omega) (by omega)).mpr (by omega)) hc1)
    refine zx_iconst (-1) (q := 52) dd_Md_find_51 rfl (by decide) ?_
    exact zx_iret dd_Md_find_52 rfl (hq _ rfl)
  | succ k ih =>
    intro s h1 h2 hq
    refine zx_iload (q := 7) dd_Md_find_5 rfl rfl ?_
    refine zx_iconst (nI 2) (q := 8) dd_Md_find_7 rfl (by decide) ?_
    refine zx_iload_n (q := 9) dd_Md_find_8 rfl rfl ?_
    refine zx_imul (q := 10) dd_Md_find_9 rfl ?_
    refine zx_topi (pk_mul _ _) ?_
    refine zx_aload_n (q := 11) dd_Md_find_10 rfl rfl ?_
    refine zx_get (q := 14) dd_Md_find_11 rfl fl_Md_63 at_m rfl ?_
    refine zx_iload_n (q := 15) dd_Md_find_14 rfl rfl ?_
    refine zx_iald (q := 16) dd_Md_find_15 rfl at_m17 rfl (by omega) (by decide) ?_
    refine zx_topi hins ?_
    refine zx_iadd (q := 17) dd_Md_find_16 rfl ?_
    refine zx_topi (nI_add _ _) ?_
    refine zx_icmp_ge 51 (q := 20) dd_Md_find_17 rfl (by decide) (fun hc1 => absurd hc1 (fun z => absurd ((nI_leI (by omega) (by omega)).mp z) (by omega))) (fun hc1 => ?_)
    refine zx_aload_n (q := 21) dd_Md_find_20 rfl rfl ?_
    refine zx_get (q := 24) dd_Md_find_21 rfl fl_Md_69 at_m rfl ?_
    refine zx_iload (q := 26) dd_Md_find_24 rfl rfl ?_
    refine zx_iald (q := 27) dd_Md_find_26 rfl at_m19 rfl (by omega) (by decide) ?_
    refine zx_iload_n (q := 28) dd_Md_find_27 rfl rfl ?_
    refine zx_icmp_ne 45 (q := 31) dd_Md_find_28 rfl (by decide) (fun hc2 => ?_) (fun hc2 => ?_)
    · skip
      refine zx_iincN_4 (q := 48) dd_Md_find_45 rfl (by decide) rfl ?_
      refine zx_goto 5 dd_Md_find_48 (by decide) ?_
      exact ih (s + 1) (by omega) (by omega) (fun r h => hq r (by simp [pm_findK, hc2, h]))
    · skip
      refine zx_aload_n (q := 32) dd_Md_find_31 rfl rfl ?_
      refine zx_get (q := 35) dd_Md_find_32 rfl fl_Md_66 at_m rfl ?_
      refine zx_iload (q := 37) dd_Md_find_35 rfl rfl ?_
      refine zx_zald (q := 38) dd_Md_find_37 rfl at_m18 rfl (by omega) (by decide) ?_
      refine zx_iload_n (q := 39) dd_Md_find_38 rfl rfl ?_
      refine zx_icmp_ne 45 (q := 42) dd_Md_find_39 rfl (by decide) (fun hc3 => ?_) (fun hc3 => ?_)
      · skip
        refine zx_iincN_4 (q := 48) dd_Md_find_45 rfl (by decide) rfl ?_
        refine zx_goto 5 dd_Md_find_48 (by decide) ?_
        exact ih (s + 1) (by omega) (by omega) (fun r h => hq r (by simp [pm_findK, eq_true hc2, hc3, h]))
      · skip
        refine zx_iload (q := 44) dd_Md_find_42 rfl rfl ?_
        exact zx_iret dd_Md_find_44 rfl (hq _ (by simp [pm_findK, eq_true hc2, eq_true hc3]))
set_option maxRecDepth 100000 in
set_option maxHeartbeats 4000000 in
theorem ok_Md_find {E : zxE} {b n : Nat} {B : zB} {F : Nat → zFn} {D : zMd} {Q : Option Value → zxH → Nat → Prop} {f c : Nat} {src al : Int32} (hf : f < 5) (hc : c ≤ 2) (hins : D.2.2.2.1 17 f = nI c) (hq : ∀ r, pm_findK D.2.2.2.1 src al c (2 * f) = r → Q (some (.int r)) (zs b (B, F, D)) n) : zx_Ok E my_Md_find mi_Md_find [.ref (b + 71), .int (nI f), .int src, .int al] (zs b (B, F, D)) n Q := by
  obtain ⟨t, fr, lo, I, J⟩ := D
  have hins : I 17 f = nI c := hins
  refine zx_start [some (.ref (b + 71)), some (.int (nI f)), some (.int src), some (.int al), none] (by decide) rfl rfl (Nat.le_of_ble_eq_true rfl) rfl ?_
  refine zx_iconst (nI 2) (q := 1) dd_Md_find_0 rfl (by decide) ?_
  refine zx_iload_n (q := 2) dd_Md_find_1 rfl rfl ?_
  refine zx_imul (q := 3) dd_Md_find_2 rfl ?_
  refine zx_topi (pk_mul _ _) ?_
  refine zx_istore_4 (q := 5) dd_Md_find_3 rfl (by decide) rfl ?_
  exact lo_Md_find hf hc hins c (2 * f) (Nat.le_refl _) rfl hq
set_option maxRecDepth 100000 in
set_option maxHeartbeats 4000000 in
theorem lo_Md_close {E : zxE} {b n : Nat} {B : zB} {F : Nat → zFn} {Q : Option Value → zxH → Nat → Prop} {t lo : Int32} {fr : Nat} {I : Nat → Nat → Int32} {J : Nat → Nat → Int64} {f s : Nat} (hs : s < 9) (hq : Q none (zs b (B, F, (t, fr, lo, pm_cpB I s 49, J))) n) : ∀ k i : Nat, i + k = 49 → zx_X E mi_Md_close (zx_Y E mi_Md_close Q) 142 [some (.ref (b + 71)), some (.int (nI f)), some (.int (nI s)), some (.int (nI (s + 1))), some (.int (nI i))] [] (zs b (B, F, (t, fr, lo, pm_cpB I s i, J))) n 0 0 := by
  intro k
  induction k with
  | zero =>
    intro i h2
    have h3 : i = 49 := by omega
    subst h3
    refine zx_iload (q := 144) dd_Md_close_142 rfl rfl ?_
    refine zx_bipush (nI 49) (q := 146) dd_Md_close_144 rfl (by decide) ?_
    refine zx_icmp_ge 179 (q := 149) dd_Md_close_146 rfl (by decide) (fun hc1 => ?_) (fun hc1 => absurd (by decide) hc1)
    exact zx_vret dd_Md_close_179 rfl hq
  | succ k ih =>
    intro i h2
    have ih := ih (i + 1) (by omega)
    rw [← pm_cpB_s (by omega)] at ih
    refine zx_iload (q := 144) dd_Md_close_142 rfl rfl ?_
    refine zx_bipush (nI 49) (q := 146) dd_Md_close_144 rfl (by decide) ?_
    refine zx_icmp_ge 179 (q := 149) dd_Md_close_146 rfl (by decide) (fun hc1 => absurd hc1 (fun z => absurd ((nI_leI (by decide) (by omega)).mp z) (by omega))) (fun hc1 => ?_)
    refine zx_aload_n (q := 150) dd_Md_close_149 rfl rfl ?_
    refine zx_get (q := 153) dd_Md_close_150 rfl fl_Md_93 at_m rfl ?_
    refine zx_bipush (nI 49) (q := 155) dd_Md_close_153 rfl (by decide) ?_
    refine zx_iload_n (q := 156) dd_Md_close_155 rfl rfl ?_
    refine zx_imul (q := 157) dd_Md_close_156 rfl ?_
    refine zx_topi (pk_mul _ _) ?_
    refine zx_iload (q := 159) dd_Md_close_157 rfl rfl ?_
    refine zx_iadd (q := 160) dd_Md_close_159 rfl ?_
    refine zx_topi (nI_add _ _) ?_
    refine zx_aload_n (q := 161) dd_Md_close_160 rfl rfl ?_
    refine zx_get (q := 164) dd_Md_close_161 rfl fl_Md_93 at_m rfl ?_
    refine zx_bipush (nI 49) (q := 166) dd_Md_close_164 rfl (by decide) ?_
    refine zx_iload_n (q := 167) dd_Md_close_166 rfl rfl ?_
    refine zx_imul (q := 168) dd_Md_close_167 rfl ?_
    refine zx_topi (pk_mul _ _) ?_
    refine zx_iload (q := 170) dd_Md_close_168 rfl rfl ?_
    refine zx_iadd (q := 171) dd_Md_close_170 rfl ?_
    refine zx_topi (nI_add _ _) ?_
    refine zx_iald (q := 172) dd_Md_close_171 rfl at_m27 rfl (by omega) (by decide) ?_
    refine zx_iast (q := 173) dd_Md_close_172 rfl at_m27 rfl (by omega) (by decide) up_m27 ?_
    refine zx_iincN_4 (q := 176) dd_Md_close_173 rfl (by decide) rfl ?_
    refine zx_goto 142 dd_Md_close_176 (by decide) ?_
    exact ih
set_option maxRecDepth 100000 in
set_option maxHeartbeats 4000000 in
theorem ok_Md_close {E : zxE} {b n : Nat} {B : zB} {F : Nat → zFn} {D : zMd} {Q : Option Value → zxH → Nat → Prop} {f s : Nat} (hf : f < 5) (hs : s < 10) (hw : D.2.1 ≤ 48) (hq : ∀ D', pm_close D f s = D' → D'.2.1 ≤ 48 → Q none (zs b (B, F, D')) n) : zx_Ok E my_Md_close mi_Md_close [.ref (b + 71), .int (nI f), .int (nI s)] (zs b (B, F, D)) n Q := by
  obtain ⟨t, fr, lo, I, J⟩ := D
  refine zx_start [some (.ref (b + 71)), some (.int (nI f)), some (.int (nI s)), none, none] (by decide) rfl rfl (Nat.le_of_ble_eq_true rfl) rfl ?_
  refine zx_aload_n (q := 1) dd_Md_close_0 rfl rfl ?_
  refine zx_get (q := 4) dd_Md_close_1 rfl fl_Md_63 at_m rfl ?_
  refine zx_iload_n (q := 5) dd_Md_close_4 rfl rfl ?_
  refine zx_dup2 (q := 6) dd_Md_close_5 rfl rfl rfl ?_
  refine zx_iald (q := 7) dd_Md_close_6 rfl at_m17 rfl (by omega) (by decide) ?_
  refine zx_iconst (nI 1) (q := 8) dd_Md_close_7 rfl (by decide) ?_
  refine zx_isub (q := 9) dd_Md_close_8 rfl ?_
  refine zx_iast (q := 10) dd_Md_close_9 rfl at_m17 rfl (by omega) (by decide) up_m17 ?_
  refine zx_iload_n (q := 11) dd_Md_close_10 rfl rfl ?_
  refine zx_iconst (nI 2) (q := 12) dd_Md_close_11 rfl (by decide) ?_
  refine zx_iload_n (q := 13) dd_Md_close_12 rfl rfl ?_
  refine zx_imul (q := 14) dd_Md_close_13 rfl ?_
  refine zx_topi (pk_mul _ _) ?_
  refine zx_icmp_gt 26 (q := 17) dd_Md_close_14 rfl (by decide) (fun hc1 => ?_) (fun hc1 => ?_)
  · skip
    replace hc1 : 2 * f < s := (nI_ltI (by omega) (by omega)).mp hc1
    exact zx_vret dd_Md_close_26 rfl (hq _ (by first | (simp [pm_close, hc1]; done) | (clear hq; simp_all [pm_close]; done)) hw)
  · skip
    replace hc1 : ¬ 2 * f < s := fun z => hc1 ((nI_ltI (by omega) (by omega)).mpr z)
    refine zx_aload_n (q := 18) dd_Md_close_17 rfl rfl ?_
    refine zx_get (q := 21) dd_Md_close_18 rfl fl_Md_63 at_m rfl ?_
    refine zx_iload_n (q := 22) dd_Md_close_21 rfl rfl ?_
    refine zx_iald (q := 23) dd_Md_close_22 rfl at_m17 rfl (by omega) (by decide) ?_
    refine zx_topi (up2_self _ _ _ _) ?_
    refine zx_if_ne 27 (q := 26) dd_Md_close_23 rfl (by decide) (fun hc2 => ?_) (fun hc2 => ?_)
    · skip
      refine zx_iload_n (q := 28) dd_Md_close_27 rfl rfl ?_
      refine zx_iconst (nI 1) (q := 29) dd_Md_close_28 rfl (by decide) ?_
      refine zx_iadd (q := 30) dd_Md_close_29 rfl ?_
      refine zx_topi (nI_add _ _) ?_
      refine zx_istore_3 (q := 31) dd_Md_close_30 rfl (by decide) rfl ?_
      refine zx_aload_n (q := 32) dd_Md_close_31 rfl rfl ?_
      refine zx_get (q := 35) dd_Md_close_32 rfl fl_Md_66 at_m rfl ?_
      refine zx_iload_n (q := 36) dd_Md_close_35 rfl rfl ?_
      refine zx_aload_n (q := 37) dd_Md_close_36 rfl rfl ?_
      refine zx_get (q := 40) dd_Md_close_37 rfl fl_Md_66 at_m rfl ?_
      refine zx_iload_n (q := 41) dd_Md_close_40 rfl rfl ?_
      refine zx_zald (q := 42) dd_Md_close_41 rfl at_m18 rfl (by omega) (by decide) ?_
      refine zx_topr (I := I) (fun j => by simp [up2_r]) ?_
      refine zx_zast (q := 43) dd_Md_close_42 rfl at_m18 rfl (by omega) (by decide) up_m18 ?_
      refine zx_aload_n (q := 44) dd_Md_close_43 rfl rfl ?_
      refine zx_get (q := 47) dd_Md_close_44 rfl fl_Md_69 at_m rfl ?_
      refine zx_iload_n (q := 48) dd_Md_close_47 rfl rfl ?_
      refine zx_aload_n (q := 49) dd_Md_close_48 rfl rfl ?_
      refine zx_get (q := 52) dd_Md_close_49 rfl fl_Md_69 at_m rfl ?_
      refine zx_iload_n (q := 53) dd_Md_close_52 rfl rfl ?_
      refine zx_iald (q := 54) dd_Md_close_53 rfl at_m19 rfl (by omega) (by decide) ?_
      refine zx_topr (I := I) (fun j => by simp [up2_r]) ?_
      refine zx_iast (q := 55) dd_Md_close_54 rfl at_m19 rfl (by omega) (by decide) up_m19 ?_
      refine zx_aload_n (q := 56) dd_Md_close_55 rfl rfl ?_
      refine zx_get (q := 59) dd_Md_close_56 rfl fl_Md_72 at_m rfl ?_
      refine zx_iload_n (q := 60) dd_Md_close_59 rfl rfl ?_
      refine zx_aload_n (q := 61) dd_Md_close_60 rfl rfl ?_
      refine zx_get (q := 64) dd_Md_close_61 rfl fl_Md_72 at_m rfl ?_
      refine zx_iload_n (q := 65) dd_Md_close_64 rfl rfl ?_
      refine zx_iald (q := 66) dd_Md_close_65 rfl at_m20 rfl (by omega) (by decide) ?_
      refine zx_topr (I := I) (fun j => by simp [up2_r]) ?_
      refine zx_iast (q := 67) dd_Md_close_66 rfl at_m20 rfl (by omega) (by decide) up_m20 ?_
      refine zx_aload_n (q := 68) dd_Md_close_67 rfl rfl ?_
      refine zx_get (q := 71) dd_Md_close_68 rfl fl_Md_75 at_m rfl ?_
      refine zx_iload_n (q := 72) dd_Md_close_71 rfl rfl ?_
      refine zx_aload_n (q := 73) dd_Md_close_72 rfl rfl ?_
      refine zx_get (q := 76) dd_Md_close_73 rfl fl_Md_75 at_m rfl ?_
      refine zx_iload_n (q := 77) dd_Md_close_76 rfl rfl ?_
      refine zx_iald (q := 78) dd_Md_close_77 rfl at_m21 rfl (by omega) (by decide) ?_
      refine zx_topr (I := I) (fun j => by simp [up2_r]) ?_
      refine zx_iast (q := 79) dd_Md_close_78 rfl at_m21 rfl (by omega) (by decide) up_m21 ?_
      refine zx_aload_n (q := 80) dd_Md_close_79 rfl rfl ?_
      refine zx_get (q := 83) dd_Md_close_80 rfl fl_Md_78 at_m rfl ?_
      refine zx_iload_n (q := 84) dd_Md_close_83 rfl rfl ?_
      refine zx_aload_n (q := 85) dd_Md_close_84 rfl rfl ?_
      refine zx_get (q := 88) dd_Md_close_85 rfl fl_Md_78 at_m rfl ?_
      refine zx_iload_n (q := 89) dd_Md_close_88 rfl rfl ?_
      refine zx_iald (q := 90) dd_Md_close_89 rfl at_m22 rfl (by omega) (by decide) ?_
      refine zx_topr (I := I) (fun j => by simp [up2_r]) ?_
      refine zx_iast (q := 91) dd_Md_close_90 rfl at_m22 rfl (by omega) (by decide) up_m22 ?_
      refine zx_aload_n (q := 92) dd_Md_close_91 rfl rfl ?_
      refine zx_get (q := 95) dd_Md_close_92 rfl fl_Md_81 at_m rfl ?_
      refine zx_iload_n (q := 96) dd_Md_close_95 rfl rfl ?_
      refine zx_aload_n (q := 97) dd_Md_close_96 rfl rfl ?_
      refine zx_get (q := 100) dd_Md_close_97 rfl fl_Md_81 at_m rfl ?_
      refine zx_iload_n (q := 101) dd_Md_close_100 rfl rfl ?_
      refine zx_iald (q := 102) dd_Md_close_101 rfl at_m23 rfl (by omega) (by decide) ?_
      refine zx_topr (I := I) (fun j => by simp [up2_r]) ?_
      refine zx_iast (q := 103) dd_Md_close_102 rfl at_m23 rfl (by omega) (by decide) up_m23 ?_
      refine zx_aload_n (q := 104) dd_Md_close_103 rfl rfl ?_
      refine zx_get (q := 107) dd_Md_close_104 rfl fl_Md_84 at_m rfl ?_
      refine zx_iload_n (q := 108) dd_Md_close_107 rfl rfl ?_
      refine zx_aload_n (q := 109) dd_Md_close_108 rfl rfl ?_
      refine zx_get (q := 112) dd_Md_close_109 rfl fl_Md_84 at_m rfl ?_
      refine zx_iload_n (q := 113) dd_Md_close_112 rfl rfl ?_
      refine zx_iald (q := 114) dd_Md_close_113 rfl at_m24 rfl (by omega) (by decide) ?_
      refine zx_topr (I := I) (fun j => by simp [up2_r]) ?_
      refine zx_iast (q := 115) dd_Md_close_114 rfl at_m24 rfl (by omega) (by decide) up_m24 ?_
      refine zx_aload_n (q := 116) dd_Md_close_115 rfl rfl ?_
      refine zx_get (q := 119) dd_Md_close_116 rfl fl_Md_87 at_m rfl ?_
      refine zx_iload_n (q := 120) dd_Md_close_119 rfl rfl ?_
      refine zx_aload_n (q := 121) dd_Md_close_120 rfl rfl ?_
      refine zx_get (q := 124) dd_Md_close_121 rfl fl_Md_87 at_m rfl ?_
      refine zx_iload_n (q := 125) dd_Md_close_124 rfl rfl ?_
      refine zx_zald (q := 126) dd_Md_close_125 rfl at_m25 rfl (by omega) (by decide) ?_
      refine zx_topr (I := I) (fun j => by simp [up2_r]) ?_
      refine zx_zast (q := 127) dd_Md_close_126 rfl at_m25 rfl (by omega) (by decide) up_m25 ?_
      refine zx_aload_n (q := 128) dd_Md_close_127 rfl rfl ?_
      refine zx_get (q := 131) dd_Md_close_128 rfl fl_Md_90 at_m rfl ?_
      refine zx_iload_n (q := 132) dd_Md_close_131 rfl rfl ?_
      refine zx_aload_n (q := 133) dd_Md_close_132 rfl rfl ?_
      refine zx_get (q := 136) dd_Md_close_133 rfl fl_Md_90 at_m rfl ?_
      refine zx_iload_n (q := 137) dd_Md_close_136 rfl rfl ?_
      refine zx_iald (q := 138) dd_Md_close_137 rfl at_m26 rfl (by omega) (by decide) ?_
      refine zx_topr (I := I) (fun j => by simp [up2_r]) ?_
      refine zx_iast (q := 139) dd_Md_close_138 rfl at_m26 rfl (by omega) (by decide) up_m26 ?_
      refine zx_iconst (nI 0) (q := 140) dd_Md_close_139 rfl (by decide) ?_
      refine zx_istore_4 (q := 142) dd_Md_close_140 rfl (by decide) rfl ?_
      have hq := hq (t, fr, lo, pm_cpB (pm_mv I (up2 I 17 f (I 17 f - nI 1)) s) s 49, J) (by simp only [pm_close]; rw [if_neg hc1, if_neg hc2]) hw
      have hx := lo_Md_close (E := E) (b := b) (n := n) (B := B) (F := F) (Q := Q) (f := f) (s := s) (by omega) hq 49 0 (by omega)
      rw [pm_cpB_0] at hx
      exact hx
    · skip
      exact zx_vret dd_Md_close_26 rfl (hq _ (by first | (simp [pm_close, hc1, eq_true hc2]; done) | (clear hq; simp_all [pm_close]; done)) hw)
set_option maxRecDepth 100000 in
set_option maxHeartbeats 4000000 in
theorem ok_Md_grant {E : zxE} {b n : Nat} {B : zB} {F : Nat → zFn} {D : zMd} {Q : Option Value → zxH → Nat → Prop} {f s : Nat} (hf : f < 5) (hs : s < 10) (hw : D.2.1 ≤ 48) (hq : ∀ D', pm_grant D f s = D' → D'.2.1 ≤ 48 → Q none (zs b (B, F, D')) n) : zx_Ok E my_Md_grant mi_Md_grant [.ref (b + 71), .int (nI f), .int (nI s)] (zs b (B, F, D)) n Q := by
  obtain ⟨t, fr, lo, I, J⟩ := D
  refine zx_start [some (.ref (b + 71)), some (.int (nI f)), some (.int (nI s)), none, none] (by decide) rfl rfl (Nat.le_of_ble_eq_true rfl) rfl ?_
  refine zx_aload_n (q := 1) dd_Md_grant_0 rfl rfl ?_
  refine zx_get (q := 4) dd_Md_grant_1 rfl fl_Md_75 at_m rfl ?_
  refine zx_iload_n (q := 5) dd_Md_grant_4 rfl rfl ?_
  refine zx_iald (q := 6) dd_Md_grant_5 rfl at_m21 rfl (by omega) (by decide) ?_
  refine zx_cS1i (q := 9) dd_Md_grant_6 rfl cs_Md_grant_170 ⟨rfl, rfl⟩ (Nat.le_of_ble_eq_true rfl) ⟨Nat.zero_le _, Nat.zero_le _⟩ (ok_Md_packets ⟨_, rfl, ?_⟩)
  refine zx_aload_n (q := 10) dd_Md_grant_9 rfl rfl ?_
  refine zx_get (q := 13) dd_Md_grant_10 rfl fl_Md_78 at_m rfl ?_
  refine zx_iload_n (q := 14) dd_Md_grant_13 rfl rfl ?_
  refine zx_iald (q := 15) dd_Md_grant_14 rfl at_m22 rfl (by omega) (by decide) ?_
  refine zx_isub (q := 16) dd_Md_grant_15 rfl ?_
  refine zx_iconst (nI 1) (q := 17) dd_Md_grant_16 rfl (by decide) ?_
  refine zx_iadd (q := 18) dd_Md_grant_17 rfl ?_
  refine zx_istore_3 (q := 19) dd_Md_grant_18 rfl (by decide) rfl ?_
  refine zx_aload_n (q := 20) dd_Md_grant_19 rfl rfl ?_
  refine zx_get (q := 23) dd_Md_grant_20 rfl fl_Md_20 at_m rfl ?_
  refine zx_iload_n (q := 24) dd_Md_grant_23 rfl rfl ?_
  refine zx_zald (q := 25) dd_Md_grant_24 rfl at_m3 rfl (by omega) (by decide) ?_
  refine zx_if_eq 32 (q := 28) dd_Md_grant_25 rfl (by decide) (fun hc1 => ?_) (fun hc1 => ?_)
  · skip
    refine zx_iload_n (q := 33) dd_Md_grant_32 rfl rfl ?_
    refine zx_iconst (nI 3) (q := 34) dd_Md_grant_33 rfl (by decide) ?_
    refine zx_icmp_ge 41 (q := 37) dd_Md_grant_34 rfl (by decide) (fun hc2 => ?_) (fun hc2 => ?_)
    · skip
      refine zx_iconst (nI 3) (q := 42) dd_Md_grant_41 rfl (by decide) ?_
      refine zx_istore_4 (q := 44) dd_Md_grant_42 rfl (by decide) rfl ?_
      refine zx_aload_n (q := 45) dd_Md_grant_44 rfl rfl ?_
      refine zx_get (q := 48) dd_Md_grant_45 rfl fl_Md_87 at_m rfl ?_
      refine zx_iload_n (q := 49) dd_Md_grant_48 rfl rfl ?_
      refine zx_iload (q := 51) dd_Md_grant_49 rfl rfl ?_
      refine zx_if_ne 58 (q := 54) dd_Md_grant_51 rfl (by decide) (fun hc3 => ?_) (fun hc3 => absurd hc3 (by decide))
      refine zx_iconst (nI 0) (q := 59) dd_Md_grant_58 rfl (by decide) ?_
      refine zx_zast (q := 60) dd_Md_grant_59 rfl at_m25 rfl (by omega) (by decide) up_m25 ?_
      refine zx_aload_n (q := 61) dd_Md_grant_60 rfl rfl ?_
      refine zx_get (q := 64) dd_Md_grant_61 rfl fl_Md_81 at_m rfl ?_
      refine zx_iload_n (q := 65) dd_Md_grant_64 rfl rfl ?_
      refine zx_aload_n (q := 66) dd_Md_grant_65 rfl rfl ?_
      refine zx_get (q := 69) dd_Md_grant_66 rfl fl_Md_78 at_m rfl ?_
      refine zx_iload_n (q := 70) dd_Md_grant_69 rfl rfl ?_
      refine zx_iald (q := 71) dd_Md_grant_70 rfl at_m22 rfl (by omega) (by decide) ?_
      refine zx_topr (I := I) (fun j => by simp [up2_r]) ?_
      refine zx_iload (q := 73) dd_Md_grant_71 rfl rfl ?_
      refine zx_iadd (q := 74) dd_Md_grant_73 rfl ?_
      refine zx_iconst (nI 1) (q := 75) dd_Md_grant_74 rfl (by decide) ?_
      refine zx_isub (q := 76) dd_Md_grant_75 rfl ?_
      refine zx_iast (q := 77) dd_Md_grant_76 rfl at_m23 rfl (by omega) (by decide) up_m23 ?_
      refine zx_aload_n (q := 78) dd_Md_grant_77 rfl rfl ?_
      refine zx_get (q := 81) dd_Md_grant_78 rfl fl_Md_90 at_m rfl ?_
      refine zx_iload_n (q := 82) dd_Md_grant_81 rfl rfl ?_
      refine zx_aload_n (q := 83) dd_Md_grant_82 rfl rfl ?_
      refine zx_get (q := 86) dd_Md_grant_83 rfl fl_Md_153 at_m rfl ?_
      refine zx_iload (q := 88) dd_Md_grant_86 rfl rfl ?_
      refine zx_if_ne 97 (q := 91) dd_Md_grant_88 rfl (by decide) (fun hc4 => ?_) (fun hc4 => absurd hc4 (by decide))
      refine zx_sipush (nI 1250) (q := 100) dd_Md_grant_97 rfl (by decide) ?_
      refine zx_iadd (q := 101) dd_Md_grant_100 rfl ?_
      refine zx_iast (q := 102) dd_Md_grant_101 rfl at_m26 rfl (by omega) (by decide) up_m26 ?_
      refine zx_aload_n (q := 103) dd_Md_grant_102 rfl rfl ?_
      refine zx_iload_n (q := 104) dd_Md_grant_103 rfl rfl ?_
      refine zx_aload_n (q := 105) dd_Md_grant_104 rfl rfl ?_
      refine zx_get (q := 108) dd_Md_grant_105 rfl fl_Md_69 at_m rfl ?_
      refine zx_iload_n (q := 109) dd_Md_grant_108 rfl rfl ?_
      refine zx_iald (q := 110) dd_Md_grant_109 rfl at_m19 rfl (by omega) (by decide) ?_
      refine zx_topr (I := I) (fun j => by simp [up2_r]) ?_
      refine zx_bipush (nI 17) (q := 112) dd_Md_grant_110 rfl (by decide) ?_
      refine zx_iload (q := 114) dd_Md_grant_112 rfl rfl ?_
      refine zx_aload_n (q := 115) dd_Md_grant_114 rfl rfl ?_
      refine zx_get (q := 118) dd_Md_grant_115 rfl fl_Md_78 at_m rfl ?_
      refine zx_iload_n (q := 119) dd_Md_grant_118 rfl rfl ?_
      refine zx_iald (q := 120) dd_Md_grant_119 rfl at_m22 rfl (by omega) (by decide) ?_
      refine zx_topr (I := I) (fun j => by simp [up2_r]) ?_
      refine zx_sipush (nI 255) (q := 123) dd_Md_grant_120 rfl (by decide) ?_
      refine zx_aload_n (q := 124) dd_Md_grant_123 rfl rfl ?_
      refine zx_get (q := 127) dd_Md_grant_124 rfl fl_Md_72 at_m rfl ?_
      refine zx_iload_n (q := 128) dd_Md_grant_127 rfl rfl ?_
      refine zx_iald (q := 129) dd_Md_grant_128 rfl at_m20 rfl (by omega) (by decide) ?_
      refine zx_topr (I := I) (fun j => by simp [up2_r]) ?_
      refine zx_cV7v (q := 132) dd_Md_grant_129 rfl cv_Md_grant_122 ⟨rfl, rfl⟩ at_m rfl rfl (Nat.le_of_ble_eq_true rfl) ⟨Nat.zero_le _, Nat.zero_le _⟩ (ok_Md_putControl hf hw fun D1 he1 hw1 => ⟨rfl, ?_⟩)
      obtain ⟨t1, fr1, lo1, I1, J1⟩ := D1
      exact zx_vret dd_Md_grant_132 rfl (hq _ (by first | (simp [pm_grant, pm_grM, eq_true hc1, hc2, he1]; done) | (clear hq; simp_all [pm_grant, pm_grM]; done)) hw1)
    · skip
      refine zx_iload_n (q := 38) dd_Md_grant_37 rfl rfl ?_
      refine zx_goto 42 dd_Md_grant_38 (by decide) ?_
      refine zx_istore_4 (q := 44) dd_Md_grant_42 rfl (by decide) rfl ?_
      refine zx_aload_n (q := 45) dd_Md_grant_44 rfl rfl ?_
      refine zx_get (q := 48) dd_Md_grant_45 rfl fl_Md_87 at_m rfl ?_
      refine zx_iload_n (q := 49) dd_Md_grant_48 rfl rfl ?_
      refine zx_iload (q := 51) dd_Md_grant_49 rfl rfl ?_
      refine zx_if_ne 58 (q := 54) dd_Md_grant_51 rfl (by decide) (fun hc5 => ?_) (fun hc5 => ?_)
      · skip
        refine zx_iconst (nI 0) (q := 59) dd_Md_grant_58 rfl (by decide) ?_
        refine zx_zast (q := 60) dd_Md_grant_59 rfl at_m25 rfl (by omega) (by decide) up_m25 ?_
        refine zx_aload_n (q := 61) dd_Md_grant_60 rfl rfl ?_
        refine zx_get (q := 64) dd_Md_grant_61 rfl fl_Md_81 at_m rfl ?_
        refine zx_iload_n (q := 65) dd_Md_grant_64 rfl rfl ?_
        refine zx_aload_n (q := 66) dd_Md_grant_65 rfl rfl ?_
        refine zx_get (q := 69) dd_Md_grant_66 rfl fl_Md_78 at_m rfl ?_
        refine zx_iload_n (q := 70) dd_Md_grant_69 rfl rfl ?_
        refine zx_iald (q := 71) dd_Md_grant_70 rfl at_m22 rfl (by omega) (by decide) ?_
        refine zx_topr (I := I) (fun j => by simp [up2_r]) ?_
        refine zx_iload (q := 73) dd_Md_grant_71 rfl rfl ?_
        refine zx_iadd (q := 74) dd_Md_grant_73 rfl ?_
        refine zx_iconst (nI 1) (q := 75) dd_Md_grant_74 rfl (by decide) ?_
        refine zx_isub (q := 76) dd_Md_grant_75 rfl ?_
        refine zx_iast (q := 77) dd_Md_grant_76 rfl at_m23 rfl (by omega) (by decide) up_m23 ?_
        refine zx_aload_n (q := 78) dd_Md_grant_77 rfl rfl ?_
        refine zx_get (q := 81) dd_Md_grant_78 rfl fl_Md_90 at_m rfl ?_
        refine zx_iload_n (q := 82) dd_Md_grant_81 rfl rfl ?_
        refine zx_aload_n (q := 83) dd_Md_grant_82 rfl rfl ?_
        refine zx_get (q := 86) dd_Md_grant_83 rfl fl_Md_153 at_m rfl ?_
        refine zx_iload (q := 88) dd_Md_grant_86 rfl rfl ?_
        refine zx_if_ne 97 (q := 91) dd_Md_grant_88 rfl (by decide) (fun hc6 => ?_) (fun hc6 => ?_)
        · skip
          refine zx_sipush (nI 1250) (q := 100) dd_Md_grant_97 rfl (by decide) ?_
          refine zx_iadd (q := 101) dd_Md_grant_100 rfl ?_
          refine zx_iast (q := 102) dd_Md_grant_101 rfl at_m26 rfl (by omega) (by decide) up_m26 ?_
          refine zx_aload_n (q := 103) dd_Md_grant_102 rfl rfl ?_
          refine zx_iload_n (q := 104) dd_Md_grant_103 rfl rfl ?_
          refine zx_aload_n (q := 105) dd_Md_grant_104 rfl rfl ?_
          refine zx_get (q := 108) dd_Md_grant_105 rfl fl_Md_69 at_m rfl ?_
          refine zx_iload_n (q := 109) dd_Md_grant_108 rfl rfl ?_
          refine zx_iald (q := 110) dd_Md_grant_109 rfl at_m19 rfl (by omega) (by decide) ?_
          refine zx_topr (I := I) (fun j => by simp [up2_r]) ?_
          refine zx_bipush (nI 17) (q := 112) dd_Md_grant_110 rfl (by decide) ?_
          refine zx_iload (q := 114) dd_Md_grant_112 rfl rfl ?_
          refine zx_aload_n (q := 115) dd_Md_grant_114 rfl rfl ?_
          refine zx_get (q := 118) dd_Md_grant_115 rfl fl_Md_78 at_m rfl ?_
          refine zx_iload_n (q := 119) dd_Md_grant_118 rfl rfl ?_
          refine zx_iald (q := 120) dd_Md_grant_119 rfl at_m22 rfl (by omega) (by decide) ?_
          refine zx_topr (I := I) (fun j => by simp [up2_r]) ?_
          refine zx_sipush (nI 255) (q := 123) dd_Md_grant_120 rfl (by decide) ?_
          refine zx_aload_n (q := 124) dd_Md_grant_123 rfl rfl ?_
          refine zx_get (q := 127) dd_Md_grant_124 rfl fl_Md_72 at_m rfl ?_
          refine zx_iload_n (q := 128) dd_Md_grant_127 rfl rfl ?_
          refine zx_iald (q := 129) dd_Md_grant_128 rfl at_m20 rfl (by omega) (by decide) ?_
          refine zx_topr (I := I) (fun j => by simp [up2_r]) ?_
          refine zx_cV7v (q := 132) dd_Md_grant_129 rfl cv_Md_grant_122 ⟨rfl, rfl⟩ at_m rfl rfl (Nat.le_of_ble_eq_true rfl) ⟨Nat.zero_le _, Nat.zero_le _⟩ (ok_Md_putControl hf hw fun D2 he2 hw2 => ⟨rfl, ?_⟩)
          obtain ⟨t2, fr2, lo2, I2, J2⟩ := D2
          exact zx_vret dd_Md_grant_132 rfl (hq _ (by first | (simp [pm_grant, pm_grM, eq_true hc1, hc2, hc5, hc6, he2]; done) | (clear hq; simp_all [pm_grant, pm_grM]; done)) hw2)
        · skip
          refine zx_sipush (nI 500) (q := 94) dd_Md_grant_91 rfl (by decide) ?_
          refine zx_goto 100 dd_Md_grant_94 (by decide) ?_
          refine zx_iadd (q := 101) dd_Md_grant_100 rfl ?_
          refine zx_iast (q := 102) dd_Md_grant_101 rfl at_m26 rfl (by omega) (by decide) up_m26 ?_
          refine zx_aload_n (q := 103) dd_Md_grant_102 rfl rfl ?_
          refine zx_iload_n (q := 104) dd_Md_grant_103 rfl rfl ?_
          refine zx_aload_n (q := 105) dd_Md_grant_104 rfl rfl ?_
          refine zx_get (q := 108) dd_Md_grant_105 rfl fl_Md_69 at_m rfl ?_
          refine zx_iload_n (q := 109) dd_Md_grant_108 rfl rfl ?_
          refine zx_iald (q := 110) dd_Md_grant_109 rfl at_m19 rfl (by omega) (by decide) ?_
          refine zx_topr (I := I) (fun j => by simp [up2_r]) ?_
          refine zx_bipush (nI 17) (q := 112) dd_Md_grant_110 rfl (by decide) ?_
          refine zx_iload (q := 114) dd_Md_grant_112 rfl rfl ?_
          refine zx_aload_n (q := 115) dd_Md_grant_114 rfl rfl ?_
          refine zx_get (q := 118) dd_Md_grant_115 rfl fl_Md_78 at_m rfl ?_
          refine zx_iload_n (q := 119) dd_Md_grant_118 rfl rfl ?_
          refine zx_iald (q := 120) dd_Md_grant_119 rfl at_m22 rfl (by omega) (by decide) ?_
          refine zx_topr (I := I) (fun j => by simp [up2_r]) ?_
          refine zx_sipush (nI 255) (q := 123) dd_Md_grant_120 rfl (by decide) ?_
          refine zx_aload_n (q := 124) dd_Md_grant_123 rfl rfl ?_
          refine zx_get (q := 127) dd_Md_grant_124 rfl fl_Md_72 at_m rfl ?_
          refine zx_iload_n (q := 128) dd_Md_grant_127 rfl rfl ?_
          refine zx_iald (q := 129) dd_Md_grant_128 rfl at_m20 rfl (by omega) (by decide) ?_
          refine zx_topr (I := I) (fun j => by simp [up2_r]) ?_
          refine zx_cV7v (q := 132) dd_Md_grant_129 rfl cv_Md_grant_122 ⟨rfl, rfl⟩ at_m rfl rfl (Nat.le_of_ble_eq_true rfl) ⟨Nat.zero_le _, Nat.zero_le _⟩ (ok_Md_putControl hf hw fun D3 he3 hw3 => ⟨rfl, ?_⟩)
          obtain ⟨t3, fr3, lo3, I3, J3⟩ := D3
          exact zx_vret dd_Md_grant_132 rfl (hq _ (by first | (simp [pm_grant, pm_grM, eq_true hc1, hc2, hc5, eq_true hc6, he3]; done) | (clear hq; simp_all [pm_grant, pm_grM]; done)) hw3)
      · skip
        refine zx_iconst (nI 1) (q := 55) dd_Md_grant_54 rfl (by decide) ?_
        refine zx_goto 59 dd_Md_grant_55 (by decide) ?_
        refine zx_zast (q := 60) dd_Md_grant_59 rfl at_m25 rfl (by omega) (by decide) up_m25 ?_
        refine zx_aload_n (q := 61) dd_Md_grant_60 rfl rfl ?_
        refine zx_get (q := 64) dd_Md_grant_61 rfl fl_Md_81 at_m rfl ?_
        refine zx_iload_n (q := 65) dd_Md_grant_64 rfl rfl ?_
        refine zx_aload_n (q := 66) dd_Md_grant_65 rfl rfl ?_
        refine zx_get (q := 69) dd_Md_grant_66 rfl fl_Md_78 at_m rfl ?_
        refine zx_iload_n (q := 70) dd_Md_grant_69 rfl rfl ?_
        refine zx_iald (q := 71) dd_Md_grant_70 rfl at_m22 rfl (by omega) (by decide) ?_
        refine zx_topr (I := I) (fun j => by simp [up2_r]) ?_
        refine zx_iload (q := 73) dd_Md_grant_71 rfl rfl ?_
        refine zx_iadd (q := 74) dd_Md_grant_73 rfl ?_
        refine zx_iconst (nI 1) (q := 75) dd_Md_grant_74 rfl (by decide) ?_
        refine zx_isub (q := 76) dd_Md_grant_75 rfl ?_
        refine zx_iast (q := 77) dd_Md_grant_76 rfl at_m23 rfl (by omega) (by decide) up_m23 ?_
        refine zx_aload_n (q := 78) dd_Md_grant_77 rfl rfl ?_
        refine zx_get (q := 81) dd_Md_grant_78 rfl fl_Md_90 at_m rfl ?_
        refine zx_iload_n (q := 82) dd_Md_grant_81 rfl rfl ?_
        refine zx_aload_n (q := 83) dd_Md_grant_82 rfl rfl ?_
        refine zx_get (q := 86) dd_Md_grant_83 rfl fl_Md_153 at_m rfl ?_
        refine zx_iload (q := 88) dd_Md_grant_86 rfl rfl ?_
        refine zx_if_ne 97 (q := 91) dd_Md_grant_88 rfl (by decide) (fun hc7 => ?_) (fun hc7 => ?_)
        · skip
          refine zx_sipush (nI 1250) (q := 100) dd_Md_grant_97 rfl (by decide) ?_
          refine zx_iadd (q := 101) dd_Md_grant_100 rfl ?_
          refine zx_iast (q := 102) dd_Md_grant_101 rfl at_m26 rfl (by omega) (by decide) up_m26 ?_
          refine zx_aload_n (q := 103) dd_Md_grant_102 rfl rfl ?_
          refine zx_iload_n (q := 104) dd_Md_grant_103 rfl rfl ?_
          refine zx_aload_n (q := 105) dd_Md_grant_104 rfl rfl ?_
          refine zx_get (q := 108) dd_Md_grant_105 rfl fl_Md_69 at_m rfl ?_
          refine zx_iload_n (q := 109) dd_Md_grant_108 rfl rfl ?_
          refine zx_iald (q := 110) dd_Md_grant_109 rfl at_m19 rfl (by omega) (by decide) ?_
          refine zx_topr (I := I) (fun j => by simp [up2_r]) ?_
          refine zx_bipush (nI 17) (q := 112) dd_Md_grant_110 rfl (by decide) ?_
          refine zx_iload (q := 114) dd_Md_grant_112 rfl rfl ?_
          refine zx_aload_n (q := 115) dd_Md_grant_114 rfl rfl ?_
          refine zx_get (q := 118) dd_Md_grant_115 rfl fl_Md_78 at_m rfl ?_
          refine zx_iload_n (q := 119) dd_Md_grant_118 rfl rfl ?_
          refine zx_iald (q := 120) dd_Md_grant_119 rfl at_m22 rfl (by omega) (by decide) ?_
          refine zx_topr (I := I) (fun j => by simp [up2_r]) ?_
          refine zx_sipush (nI 255) (q := 123) dd_Md_grant_120 rfl (by decide) ?_
          refine zx_aload_n (q := 124) dd_Md_grant_123 rfl rfl ?_
          refine zx_get (q := 127) dd_Md_grant_124 rfl fl_Md_72 at_m rfl ?_
          refine zx_iload_n (q := 128) dd_Md_grant_127 rfl rfl ?_
          refine zx_iald (q := 129) dd_Md_grant_128 rfl at_m20 rfl (by omega) (by decide) ?_
          refine zx_topr (I := I) (fun j => by simp [up2_r]) ?_
          refine zx_cV7v (q := 132) dd_Md_grant_129 rfl cv_Md_grant_122 ⟨rfl, rfl⟩ at_m rfl rfl (Nat.le_of_ble_eq_true rfl) ⟨Nat.zero_le _, Nat.zero_le _⟩ (ok_Md_putControl hf hw fun D4 he4 hw4 => ⟨rfl, ?_⟩)
          obtain ⟨t4, fr4, lo4, I4, J4⟩ := D4
          exact zx_vret dd_Md_grant_132 rfl (hq _ (by first | (simp [pm_grant, pm_grM, eq_true hc1, hc2, eq_true hc5, hc7, he4]; done) | (clear hq; simp_all [pm_grant, pm_grM]; done)) hw4)
        · skip
          refine zx_sipush (nI 500) (q := 94) dd_Md_grant_91 rfl (by decide) ?_
          refine zx_goto 100 dd_Md_grant_94 (by decide) ?_
          refine zx_iadd (q := 101) dd_Md_grant_100 rfl ?_
          refine zx_iast (q := 102) dd_Md_grant_101 rfl at_m26 rfl (by omega) (by decide) up_m26 ?_
          refine zx_aload_n (q := 103) dd_Md_grant_102 rfl rfl ?_
          refine zx_iload_n (q := 104) dd_Md_grant_103 rfl rfl ?_
          refine zx_aload_n (q := 105) dd_Md_grant_104 rfl rfl ?_
          refine zx_get (q := 108) dd_Md_grant_105 rfl fl_Md_69 at_m rfl ?_
          refine zx_iload_n (q := 109) dd_Md_grant_108 rfl rfl ?_
          refine zx_iald (q := 110) dd_Md_grant_109 rfl at_m19 rfl (by omega) (by decide) ?_
          refine zx_topr (I := I) (fun j => by simp [up2_r]) ?_
          refine zx_bipush (nI 17) (q := 112) dd_Md_grant_110 rfl (by decide) ?_
          refine zx_iload (q := 114) dd_Md_grant_112 rfl rfl ?_
          refine zx_aload_n (q := 115) dd_Md_grant_114 rfl rfl ?_
          refine zx_get (q := 118) dd_Md_grant_115 rfl fl_Md_78 at_m rfl ?_
          refine zx_iload_n (q := 119) dd_Md_grant_118 rfl rfl ?_
          refine zx_iald (q := 120) dd_Md_grant_119 rfl at_m22 rfl (by omega) (by decide) ?_
          refine zx_topr (I := I) (fun j => by simp [up2_r]) ?_
          refine zx_sipush (nI 255) (q := 123) dd_Md_grant_120 rfl (by decide) ?_
          refine zx_aload_n (q := 124) dd_Md_grant_123 rfl rfl ?_
          refine zx_get (q := 127) dd_Md_grant_124 rfl fl_Md_72 at_m rfl ?_
          refine zx_iload_n (q := 128) dd_Md_grant_127 rfl rfl ?_
          refine zx_iald (q := 129) dd_Md_grant_128 rfl at_m20 rfl (by omega) (by decide) ?_
          refine zx_topr (I := I) (fun j => by simp [up2_r]) ?_
          refine zx_cV7v (q := 132) dd_Md_grant_129 rfl cv_Md_grant_122 ⟨rfl, rfl⟩ at_m rfl rfl (Nat.le_of_ble_eq_true rfl) ⟨Nat.zero_le _, Nat.zero_le _⟩ (ok_Md_putControl hf hw fun D5 he5 hw5 => ⟨rfl, ?_⟩)
          obtain ⟨t5, fr5, lo5, I5, J5⟩ := D5
          exact zx_vret dd_Md_grant_132 rfl (hq _ (by first | (simp [pm_grant, pm_grM, eq_true hc1, hc2, eq_true hc5, eq_true hc7, he5]; done) | (clear hq; simp_all [pm_grant, pm_grM]; done)) hw5)
  · skip
    refine zx_iconst (nI 0) (q := 29) dd_Md_grant_28 rfl (by decide) ?_
    refine zx_goto 42 dd_Md_grant_29 (by decide) ?_
    refine zx_istore_4 (q := 44) dd_Md_grant_42 rfl (by decide) rfl ?_
    refine zx_aload_n (q := 45) dd_Md_grant_44 rfl rfl ?_
    refine zx_get (q := 48) dd_Md_grant_45 rfl fl_Md_87 at_m rfl ?_
    refine zx_iload_n (q := 49) dd_Md_grant_48 rfl rfl ?_
    refine zx_iload (q := 51) dd_Md_grant_49 rfl rfl ?_
    refine zx_if_ne 58 (q := 54) dd_Md_grant_51 rfl (by decide) (fun hc8 => absurd (by decide) hc8) (fun hc8 => ?_)
    refine zx_iconst (nI 1) (q := 55) dd_Md_grant_54 rfl (by decide) ?_
    refine zx_goto 59 dd_Md_grant_55 (by decide) ?_
    refine zx_zast (q := 60) dd_Md_grant_59 rfl at_m25 rfl (by omega) (by decide) up_m25 ?_
    refine zx_aload_n (q := 61) dd_Md_grant_60 rfl rfl ?_
    refine zx_get (q := 64) dd_Md_grant_61 rfl fl_Md_81 at_m rfl ?_
    refine zx_iload_n (q := 65) dd_Md_grant_64 rfl rfl ?_
    refine zx_aload_n (q := 66) dd_Md_grant_65 rfl rfl ?_
    refine zx_get (q := 69) dd_Md_grant_66 rfl fl_Md_78 at_m rfl ?_
    refine zx_iload_n (q := 70) dd_Md_grant_69 rfl rfl ?_
    refine zx_iald (q := 71) dd_Md_grant_70 rfl at_m22 rfl (by omega) (by decide) ?_
    refine zx_topr (I := I) (fun j => by simp [up2_r]) ?_
    refine zx_iload (q := 73) dd_Md_grant_71 rfl rfl ?_
    refine zx_iadd (q := 74) dd_Md_grant_73 rfl ?_
    refine zx_iconst (nI 1) (q := 75) dd_Md_grant_74 rfl (by decide) ?_
    refine zx_isub (q := 76) dd_Md_grant_75 rfl ?_
    refine zx_iast (q := 77) dd_Md_grant_76 rfl at_m23 rfl (by omega) (by decide) up_m23 ?_
    refine zx_aload_n (q := 78) dd_Md_grant_77 rfl rfl ?_
    refine zx_get (q := 81) dd_Md_grant_78 rfl fl_Md_90 at_m rfl ?_
    refine zx_iload_n (q := 82) dd_Md_grant_81 rfl rfl ?_
    refine zx_aload_n (q := 83) dd_Md_grant_82 rfl rfl ?_
    refine zx_get (q := 86) dd_Md_grant_83 rfl fl_Md_153 at_m rfl ?_
    refine zx_iload (q := 88) dd_Md_grant_86 rfl rfl ?_
    refine zx_if_ne 97 (q := 91) dd_Md_grant_88 rfl (by decide) (fun hc9 => absurd (by decide) hc9) (fun hc9 => ?_)
    refine zx_sipush (nI 500) (q := 94) dd_Md_grant_91 rfl (by decide) ?_
    refine zx_goto 100 dd_Md_grant_94 (by decide) ?_
    refine zx_iadd (q := 101) dd_Md_grant_100 rfl ?_
    refine zx_iast (q := 102) dd_Md_grant_101 rfl at_m26 rfl (by omega) (by decide) up_m26 ?_
    refine zx_aload_n (q := 103) dd_Md_grant_102 rfl rfl ?_
    refine zx_iload_n (q := 104) dd_Md_grant_103 rfl rfl ?_
    refine zx_aload_n (q := 105) dd_Md_grant_104 rfl rfl ?_
    refine zx_get (q := 108) dd_Md_grant_105 rfl fl_Md_69 at_m rfl ?_
    refine zx_iload_n (q := 109) dd_Md_grant_108 rfl rfl ?_
    refine zx_iald (q := 110) dd_Md_grant_109 rfl at_m19 rfl (by omega) (by decide) ?_
    refine zx_topr (I := I) (fun j => by simp [up2_r]) ?_
    refine zx_bipush (nI 17) (q := 112) dd_Md_grant_110 rfl (by decide) ?_
    refine zx_iload (q := 114) dd_Md_grant_112 rfl rfl ?_
    refine zx_aload_n (q := 115) dd_Md_grant_114 rfl rfl ?_
    refine zx_get (q := 118) dd_Md_grant_115 rfl fl_Md_78 at_m rfl ?_
    refine zx_iload_n (q := 119) dd_Md_grant_118 rfl rfl ?_
    refine zx_iald (q := 120) dd_Md_grant_119 rfl at_m22 rfl (by omega) (by decide) ?_
    refine zx_topr (I := I) (fun j => by simp [up2_r]) ?_
    refine zx_sipush (nI 255) (q := 123) dd_Md_grant_120 rfl (by decide) ?_
    refine zx_aload_n (q := 124) dd_Md_grant_123 rfl rfl ?_
    refine zx_get (q := 127) dd_Md_grant_124 rfl fl_Md_72 at_m rfl ?_
    refine zx_iload_n (q := 128) dd_Md_grant_127 rfl rfl ?_
    refine zx_iald (q := 129) dd_Md_grant_128 rfl at_m20 rfl (by omega) (by decide) ?_
    refine zx_topr (I := I) (fun j => by simp [up2_r]) ?_
    refine zx_cV7v (q := 132) dd_Md_grant_129 rfl cv_Md_grant_122 ⟨rfl, rfl⟩ at_m rfl rfl (Nat.le_of_ble_eq_true rfl) ⟨Nat.zero_le _, Nat.zero_le _⟩ (ok_Md_putControl hf hw fun D6 he6 hw6 => ⟨rfl, ?_⟩)
    obtain ⟨t6, fr6, lo6, I6, J6⟩ := D6
    exact zx_vret dd_Md_grant_132 rfl (hq _ (by first | (simp [pm_grant, pm_grM, hc1, he6]; done) | (clear hq; simp_all [pm_grant, pm_grM]; done)) hw6)
set_option maxRecDepth 100000 in
set_option maxHeartbeats 4000000 in
theorem ok_Md_askAgain {E : zxE} {b n : Nat} {B : zB} {F : Nat → zFn} {D : zMd} {Q : Option Value → zxH → Nat → Prop} {f s : Nat} {re : Int32} (hf : f < 5) (hs : s < 10) (hw : D.2.1 ≤ 48) (hq : ∀ D', pm_ask D f s re = D' → D'.2.1 ≤ 48 → Q none (zs b (B, F, D')) n) : zx_Ok E my_Md_askAgain mi_Md_askAgain [.ref (b + 71), .int (nI f), .int (nI s), .int re] (zs b (B, F, D)) n Q := by
  obtain ⟨t, fr, lo, I, J⟩ := D
  refine zx_start [some (.ref (b + 71)), some (.int (nI f)), some (.int (nI s)), some (.int re)] (by decide) rfl rfl (Nat.le_of_ble_eq_true rfl) rfl ?_
  refine zx_aload_n (q := 1) dd_Md_askAgain_0 rfl rfl ?_
  refine zx_get (q := 4) dd_Md_askAgain_1 rfl fl_Md_84 at_m rfl ?_
  refine zx_iload_n (q := 5) dd_Md_askAgain_4 rfl rfl ?_
  refine zx_dup2 (q := 6) dd_Md_askAgain_5 rfl rfl rfl ?_
  refine zx_iald (q := 7) dd_Md_askAgain_6 rfl at_m24 rfl (by omega) (by decide) ?_
  refine zx_iconst (nI 1) (q := 8) dd_Md_askAgain_7 rfl (by decide) ?_
  refine zx_iadd (q := 9) dd_Md_askAgain_8 rfl ?_
  refine zx_iast (q := 10) dd_Md_askAgain_9 rfl at_m24 rfl (by omega) (by decide) up_m24 ?_
  refine zx_aload_n (q := 11) dd_Md_askAgain_10 rfl rfl ?_
  refine zx_get (q := 14) dd_Md_askAgain_11 rfl fl_Md_84 at_m rfl ?_
  refine zx_iload_n (q := 15) dd_Md_askAgain_14 rfl rfl ?_
  refine zx_iald (q := 16) dd_Md_askAgain_15 rfl at_m24 rfl (by omega) (by decide) ?_
  refine zx_topi (up2_self _ _ _ _) ?_
  refine zx_iconst (nI 3) (q := 17) dd_Md_askAgain_16 rfl (by decide) ?_
  refine zx_icmp_ge 29 (q := 20) dd_Md_askAgain_17 rfl (by decide) (fun hc1 => ?_) (fun hc1 => ?_)
  · skip
    refine zx_aload_n (q := 30) dd_Md_askAgain_29 rfl rfl ?_
    refine zx_iload_n (q := 31) dd_Md_askAgain_30 rfl rfl ?_
    refine zx_aload_n (q := 32) dd_Md_askAgain_31 rfl rfl ?_
    refine zx_get (q := 35) dd_Md_askAgain_32 rfl fl_Md_69 at_m rfl ?_
    refine zx_iload_n (q := 36) dd_Md_askAgain_35 rfl rfl ?_
    refine zx_iald (q := 37) dd_Md_askAgain_36 rfl at_m19 rfl (by omega) (by decide) ?_
    refine zx_topr (I := I) (fun j => by simp [up2_r]) ?_
    refine zx_iload_n (q := 38) dd_Md_askAgain_37 rfl rfl ?_
    refine zx_aload_n (q := 39) dd_Md_askAgain_38 rfl rfl ?_
    refine zx_get (q := 42) dd_Md_askAgain_39 rfl fl_Md_72 at_m rfl ?_
    refine zx_iload_n (q := 43) dd_Md_askAgain_42 rfl rfl ?_
    refine zx_iald (q := 44) dd_Md_askAgain_43 rfl at_m20 rfl (by omega) (by decide) ?_
    refine zx_topr (I := I) (fun j => by simp [up2_r]) ?_
    refine zx_cV4v (q := 47) dd_Md_askAgain_44 rfl cv_Md_askAgain_197 ⟨rfl, rfl⟩ at_m rfl rfl (Nat.le_of_ble_eq_true rfl) ⟨Nat.zero_le _, Nat.zero_le _⟩ (ok_Md_putAbort hf hw fun D7 he7 hw7 => ⟨rfl, ?_⟩)
    obtain ⟨t7, fr7, lo7, I7, J7⟩ := D7
    refine zx_aload_n (q := 48) dd_Md_askAgain_47 rfl rfl ?_
    refine zx_iload_n (q := 49) dd_Md_askAgain_48 rfl rfl ?_
    refine zx_iload_n (q := 50) dd_Md_askAgain_49 rfl rfl ?_
    refine zx_cV2v (q := 53) dd_Md_askAgain_50 rfl cv_Md_askAgain_191 ⟨rfl, rfl⟩ at_m rfl rfl (Nat.le_of_ble_eq_true rfl) ⟨Nat.zero_le _, Nat.zero_le _⟩ (ok_Md_close hf hs hw7 fun D8 he8 hw8 => ⟨rfl, ?_⟩)
    obtain ⟨t8, fr8, lo8, I8, J8⟩ := D8
    exact zx_vret dd_Md_askAgain_53 rfl (hq _ (by first | (simp [pm_ask, hc1, he7, he8]; done) | (clear hq; simp_all [pm_ask]; done)) hw8)
  · skip
    refine zx_aload_n (q := 21) dd_Md_askAgain_20 rfl rfl ?_
    refine zx_iload_n (q := 22) dd_Md_askAgain_21 rfl rfl ?_
    refine zx_iload_n (q := 23) dd_Md_askAgain_22 rfl rfl ?_
    refine zx_cV2v (q := 26) dd_Md_askAgain_23 rfl cv_Md_askAgain_201 ⟨rfl, rfl⟩ at_m rfl rfl (Nat.le_of_ble_eq_true rfl) ⟨Nat.zero_le _, Nat.zero_le _⟩ (ok_Md_grant hf hs hw fun D9 he9 hw9 => ⟨rfl, ?_⟩)
    obtain ⟨t9, fr9, lo9, I9, J9⟩ := D9
    refine zx_goto 53 dd_Md_askAgain_26 (by decide) ?_
    exact zx_vret dd_Md_askAgain_53 rfl (hq _ (by first | (simp [pm_ask, hc1, he9]; done) | (clear hq; simp_all [pm_ask]; done)) hw9)
