set_option maxRecDepth 100000 in
set_option maxHeartbeats 4000000 in
theorem ok_Md_opened {E : zxE} {b n : Nat} {B : zB} {F : Nat → zFn} {D : zMd} {Q : Option Value → zxH → Nat → Prop} {f c : Nat} {src si gr al : Int32} (hf : f < 5) (hc : c ≤ 2) (hins : D.2.2.2.1 17 f = nI c) (hw : D.2.1 ≤ 48) (hq : ∀ D', pm_opened D f c src si gr al = D' → D'.2.1 ≤ 48 → Q none (zs b (B, F, D')) n) : zx_Ok E my_Md_opened mi_Md_opened [.ref (b + 71), .int (nI f), .int src, .int si, .int gr, .int al] (zs b (B, F, D)) n Q := by
  obtain ⟨t, fr, lo, I, J⟩ := D
  have hins : I 17 f = nI c := hins
  refine zx_start [some (.ref (b + 71)), some (.int (nI f)), some (.int src), some (.int si), some (.int gr), some (.int al), none, none] (by decide) rfl rfl (Nat.le_of_ble_eq_true rfl) rfl ?_
  refine zx_aload_n (q := 1) dd_Md_opened_0 rfl rfl ?_
  refine zx_iload_n (q := 2) dd_Md_opened_1 rfl rfl ?_
  refine zx_iload_n (q := 3) dd_Md_opened_2 rfl rfl ?_
  refine zx_iload (q := 5) dd_Md_opened_3 rfl rfl ?_
  refine zx_cV3i (q := 8) dd_Md_opened_5 rfl cv_Md_opened_175 ⟨rfl, rfl⟩ at_m rfl rfl (Nat.le_of_ble_eq_true rfl) ⟨Nat.zero_le _, Nat.zero_le _⟩ (ok_Md_find hf hc hins fun r1 he1 => ⟨_, rfl, ?_⟩)
  refine zx_istore_6 (q := 10) dd_Md_opened_8 rfl (by decide) rfl ?_
  refine zx_iload (q := 12) dd_Md_opened_10 rfl rfl ?_
  refine zx_if_lt 25 (q := 15) dd_Md_opened_12 rfl (by decide) (fun hc1 => ?_) (fun hc1 => ?_)
  · skip
    refine zx_aload_n (q := 26) dd_Md_opened_25 rfl rfl ?_
    refine zx_get (q := 29) dd_Md_opened_26 rfl fl_Md_63 at_m rfl ?_
    refine zx_iload_n (q := 30) dd_Md_opened_29 rfl rfl ?_
    refine zx_iald (q := 31) dd_Md_opened_30 rfl at_m17 rfl (by omega) (by decide) ?_
    refine zx_topi hins ?_
    refine zx_iconst (nI 2) (q := 32) dd_Md_opened_31 rfl (by decide) ?_
    refine zx_icmp_ne 50 (q := 35) dd_Md_opened_32 rfl (by decide) (fun hc2 => ?_) (fun hc2 => ?_)
    · skip
      replace hc2 : ¬ c = 2 := fun z => hc2 (by rw [z])
      refine zx_iconst (nI 2) (q := 51) dd_Md_opened_50 rfl (by decide) ?_
      refine zx_iload_n (q := 52) dd_Md_opened_51 rfl rfl ?_
      refine zx_imul (q := 53) dd_Md_opened_52 rfl ?_
      refine zx_topi (pk_mul _ _) ?_
      refine zx_aload_n (q := 54) dd_Md_opened_53 rfl rfl ?_
      refine zx_get (q := 57) dd_Md_opened_54 rfl fl_Md_63 at_m rfl ?_
      refine zx_iload_n (q := 58) dd_Md_opened_57 rfl rfl ?_
      refine zx_iald (q := 59) dd_Md_opened_58 rfl at_m17 rfl (by omega) (by decide) ?_
      refine zx_topi hins ?_
      refine zx_iadd (q := 60) dd_Md_opened_59 rfl ?_
      refine zx_topi (nI_add _ _) ?_
      refine zx_istore_7 (q := 62) dd_Md_opened_60 rfl (by decide) rfl ?_
      refine zx_aload_n (q := 63) dd_Md_opened_62 rfl rfl ?_
      refine zx_get (q := 66) dd_Md_opened_63 rfl fl_Md_63 at_m rfl ?_
      refine zx_iload_n (q := 67) dd_Md_opened_66 rfl rfl ?_
      refine zx_dup2 (q := 68) dd_Md_opened_67 rfl rfl rfl ?_
      refine zx_iald (q := 69) dd_Md_opened_68 rfl at_m17 rfl (by omega) (by decide) ?_
      refine zx_topi hins ?_
      refine zx_iconst (nI 1) (q := 70) dd_Md_opened_69 rfl (by decide) ?_
      refine zx_iadd (q := 71) dd_Md_opened_70 rfl ?_
      refine zx_iast (q := 72) dd_Md_opened_71 rfl at_m17 rfl (by omega) (by decide) up_m17 ?_
      refine zx_aload_n (q := 73) dd_Md_opened_72 rfl rfl ?_
      refine zx_get (q := 76) dd_Md_opened_73 rfl fl_Md_66 at_m rfl ?_
      refine zx_iload (q := 78) dd_Md_opened_76 rfl rfl ?_
      refine zx_iload (q := 80) dd_Md_opened_78 rfl rfl ?_
      refine zx_zast (q := 81) dd_Md_opened_80 rfl at_m18 rfl (by omega) (by decide) up_m18 ?_
      refine zx_aload_n (q := 82) dd_Md_opened_81 rfl rfl ?_
      refine zx_get (q := 85) dd_Md_opened_82 rfl fl_Md_69 at_m rfl ?_
      refine zx_iload (q := 87) dd_Md_opened_85 rfl rfl ?_
      refine zx_iload_n (q := 88) dd_Md_opened_87 rfl rfl ?_
      refine zx_iast (q := 89) dd_Md_opened_88 rfl at_m19 rfl (by omega) (by decide) up_m19 ?_
      refine zx_aload_n (q := 90) dd_Md_opened_89 rfl rfl ?_
      refine zx_get (q := 93) dd_Md_opened_90 rfl fl_Md_72 at_m rfl ?_
      refine zx_iload (q := 95) dd_Md_opened_93 rfl rfl ?_
      refine zx_iload (q := 97) dd_Md_opened_95 rfl rfl ?_
      refine zx_iast (q := 98) dd_Md_opened_97 rfl at_m20 rfl (by omega) (by decide) up_m20 ?_
      refine zx_aload_n (q := 99) dd_Md_opened_98 rfl rfl ?_
      refine zx_get (q := 102) dd_Md_opened_99 rfl fl_Md_75 at_m rfl ?_
      refine zx_iload (q := 104) dd_Md_opened_102 rfl rfl ?_
      refine zx_iload_n (q := 105) dd_Md_opened_104 rfl rfl ?_
      refine zx_iast (q := 106) dd_Md_opened_105 rfl at_m21 rfl (by omega) (by decide) up_m21 ?_
      refine zx_aload_n (q := 107) dd_Md_opened_106 rfl rfl ?_
      refine zx_get (q := 110) dd_Md_opened_107 rfl fl_Md_78 at_m rfl ?_
      refine zx_iload (q := 112) dd_Md_opened_110 rfl rfl ?_
      refine zx_iconst (nI 1) (q := 113) dd_Md_opened_112 rfl (by decide) ?_
      refine zx_iast (q := 114) dd_Md_opened_113 rfl at_m22 rfl (by omega) (by decide) up_m22 ?_
      refine zx_aload_n (q := 115) dd_Md_opened_114 rfl rfl ?_
      refine zx_get (q := 118) dd_Md_opened_115 rfl fl_Md_84 at_m rfl ?_
      refine zx_iload (q := 120) dd_Md_opened_118 rfl rfl ?_
      refine zx_iconst (nI 0) (q := 121) dd_Md_opened_120 rfl (by decide) ?_
      refine zx_iast (q := 122) dd_Md_opened_121 rfl at_m24 rfl (by omega) (by decide) up_m24 ?_
      refine zx_aload_n (q := 123) dd_Md_opened_122 rfl rfl ?_
      refine zx_get (q := 126) dd_Md_opened_123 rfl fl_Md_87 at_m rfl ?_
      refine zx_iload (q := 128) dd_Md_opened_126 rfl rfl ?_
      refine zx_iconst (nI 0) (q := 129) dd_Md_opened_128 rfl (by decide) ?_
      refine zx_zast (q := 130) dd_Md_opened_129 rfl at_m25 rfl (by omega) (by decide) up_m25 ?_
      refine zx_aload_n (q := 131) dd_Md_opened_130 rfl rfl ?_
      refine zx_get (q := 134) dd_Md_opened_131 rfl fl_Md_90 at_m rfl ?_
      refine zx_iload (q := 136) dd_Md_opened_134 rfl rfl ?_
      refine zx_aload_n (q := 137) dd_Md_opened_136 rfl rfl ?_
      refine zx_get (q := 140) dd_Md_opened_137 rfl fl_Md_153 at_m rfl ?_
      refine zx_sipush (nI 750) (q := 143) dd_Md_opened_140 rfl (by decide) ?_
      refine zx_iadd (q := 144) dd_Md_opened_143 rfl ?_
      refine zx_iast (q := 145) dd_Md_opened_144 rfl at_m26 rfl (by omega) (by decide) up_m26 ?_
      refine zx_iload (q := 147) dd_Md_opened_145 rfl rfl ?_
      refine zx_if_ne 157 (q := 150) dd_Md_opened_147 rfl (by decide) (fun hc3 => ?_) (fun hc3 => ?_)
      · skip
        exact zx_vret dd_Md_opened_157 rfl (hq _ (by first | (simp [pm_opened, pm_opn, he1, hc1, hc2, hc3]; done) | (clear hq; simp_all [pm_opened, pm_opn]; done)) hw)
      · skip
        refine zx_aload_n (q := 151) dd_Md_opened_150 rfl rfl ?_
        refine zx_iload_n (q := 152) dd_Md_opened_151 rfl rfl ?_
        refine zx_iload (q := 154) dd_Md_opened_152 rfl rfl ?_
        refine zx_cV2v (q := 157) dd_Md_opened_154 rfl cv_Md_opened_201 ⟨rfl, rfl⟩ at_m rfl rfl (Nat.le_of_ble_eq_true rfl) ⟨Nat.zero_le _, Nat.zero_le _⟩ (ok_Md_grant hf (by omega) hw fun D2 he2 hw2 => ⟨rfl, ?_⟩)
        obtain ⟨t2, fr2, lo2, I2, J2⟩ := D2
        exact zx_vret dd_Md_opened_157 rfl (hq _ (by first | (simp [pm_opened, pm_opn, he1, hc1, hc2, eq_true hc3, he2]; done) | (clear hq; simp_all [pm_opened, pm_opn]; done)) hw2)
    · skip
      replace hc2 : c = 2 := (nI_eq (by omega) (by decide)).mp hc2
      refine zx_iload (q := 37) dd_Md_opened_35 rfl rfl ?_
      refine zx_if_ne 49 (q := 40) dd_Md_opened_37 rfl (by decide) (fun hc4 => ?_) (fun hc4 => ?_)
      · skip
        exact zx_vret dd_Md_opened_49 rfl (hq _ (by first | (simp [pm_opened, pm_opn, he1, hc1, hc2, hc4]; done) | (clear hq; simp_all [pm_opened, pm_opn]; done)) hw)
      · skip
        refine zx_aload_n (q := 41) dd_Md_opened_40 rfl rfl ?_
        refine zx_iload_n (q := 42) dd_Md_opened_41 rfl rfl ?_
        refine zx_iload_n (q := 43) dd_Md_opened_42 rfl rfl ?_
        refine zx_iconst (nI 2) (q := 44) dd_Md_opened_43 rfl (by decide) ?_
        refine zx_iload (q := 46) dd_Md_opened_44 rfl rfl ?_
        refine zx_cV4v (q := 49) dd_Md_opened_46 rfl cv_Md_opened_197 ⟨rfl, rfl⟩ at_m rfl rfl (Nat.le_of_ble_eq_true rfl) ⟨Nat.zero_le _, Nat.zero_le _⟩ (ok_Md_putAbort hf hw fun D3 he3 hw3 => ⟨rfl, ?_⟩)
        obtain ⟨t3, fr3, lo3, I3, J3⟩ := D3
        exact zx_vret dd_Md_opened_49 rfl (hq _ (by first | (simp [pm_opened, pm_opn, he1, hc1, hc2, eq_true hc4, he3]; done) | (clear hq; simp_all [pm_opened, pm_opn]; done)) hw3)
  · skip
    obtain ⟨u, hu1, hu2, hu3⟩ := pm_findK_n c (2 * f) (he1 ▸ hc1)
    have hru : r1 = nI u := he1.symm.trans hu3
    subst hru
    refine zx_aload_n (q := 16) dd_Md_opened_15 rfl rfl ?_
    refine zx_iload_n (q := 17) dd_Md_opened_16 rfl rfl ?_
    refine zx_iload (q := 19) dd_Md_opened_17 rfl rfl ?_
    refine zx_cV2v (q := 22) dd_Md_opened_19 rfl cv_Md_opened_191 ⟨rfl, rfl⟩ at_m rfl rfl (Nat.le_of_ble_eq_true rfl) ⟨Nat.zero_le _, Nat.zero_le _⟩ (ok_Md_close hf (by omega) hw fun D4 he4 hw4 => ⟨rfl, ?_⟩)
    obtain ⟨t4, fr4, lo4, I4, J4⟩ := D4
    have hi4 : I4 17 f = nI (c - 1) := by
      have z := pm_close_ins (t, fr, lo, I, J) f u
      rw [he4] at z
      have z : I4 17 f = I 17 f - nI 1 := z
      rw [z, hins]
      exact pk_sub (by omega)
    refine zx_goto 50 dd_Md_opened_22 (by decide) ?_
    refine zx_iconst (nI 2) (q := 51) dd_Md_opened_50 rfl (by decide) ?_
    refine zx_iload_n (q := 52) dd_Md_opened_51 rfl rfl ?_
    refine zx_imul (q := 53) dd_Md_opened_52 rfl ?_
    refine zx_topi (pk_mul _ _) ?_
    refine zx_aload_n (q := 54) dd_Md_opened_53 rfl rfl ?_
    refine zx_get (q := 57) dd_Md_opened_54 rfl fl_Md_63 at_m rfl ?_
    refine zx_iload_n (q := 58) dd_Md_opened_57 rfl rfl ?_
    refine zx_iald (q := 59) dd_Md_opened_58 rfl at_m17 rfl (by omega) (by decide) ?_
    refine zx_topi hi4 ?_
    refine zx_iadd (q := 60) dd_Md_opened_59 rfl ?_
    refine zx_topi (nI_add _ _) ?_
    refine zx_istore_7 (q := 62) dd_Md_opened_60 rfl (by decide) rfl ?_
    refine zx_aload_n (q := 63) dd_Md_opened_62 rfl rfl ?_
    refine zx_get (q := 66) dd_Md_opened_63 rfl fl_Md_63 at_m rfl ?_
    refine zx_iload_n (q := 67) dd_Md_opened_66 rfl rfl ?_
    refine zx_dup2 (q := 68) dd_Md_opened_67 rfl rfl rfl ?_
    refine zx_iald (q := 69) dd_Md_opened_68 rfl at_m17 rfl (by omega) (by decide) ?_
    refine zx_topi hi4 ?_
    refine zx_iconst (nI 1) (q := 70) dd_Md_opened_69 rfl (by decide) ?_
    refine zx_iadd (q := 71) dd_Md_opened_70 rfl ?_
    refine zx_iast (q := 72) dd_Md_opened_71 rfl at_m17 rfl (by omega) (by decide) up_m17 ?_
    refine zx_aload_n (q := 73) dd_Md_opened_72 rfl rfl ?_
    refine zx_get (q := 76) dd_Md_opened_73 rfl fl_Md_66 at_m rfl ?_
    refine zx_iload (q := 78) dd_Md_opened_76 rfl rfl ?_
    refine zx_iload (q := 80) dd_Md_opened_78 rfl rfl ?_
    refine zx_zast (q := 81) dd_Md_opened_80 rfl at_m18 rfl (by omega) (by decide) up_m18 ?_
    refine zx_aload_n (q := 82) dd_Md_opened_81 rfl rfl ?_
    refine zx_get (q := 85) dd_Md_opened_82 rfl fl_Md_69 at_m rfl ?_
    refine zx_iload (q := 87) dd_Md_opened_85 rfl rfl ?_
    refine zx_iload_n (q := 88) dd_Md_opened_87 rfl rfl ?_
    refine zx_iast (q := 89) dd_Md_opened_88 rfl at_m19 rfl (by omega) (by decide) up_m19 ?_
    refine zx_aload_n (q := 90) dd_Md_opened_89 rfl rfl ?_
    refine zx_get (q := 93) dd_Md_opened_90 rfl fl_Md_72 at_m rfl ?_
    refine zx_iload (q := 95) dd_Md_opened_93 rfl rfl ?_
    refine zx_iload (q := 97) dd_Md_opened_95 rfl rfl ?_
    refine zx_iast (q := 98) dd_Md_opened_97 rfl at_m20 rfl (by omega) (by decide) up_m20 ?_
    refine zx_aload_n (q := 99) dd_Md_opened_98 rfl rfl ?_
    refine zx_get (q := 102) dd_Md_opened_99 rfl fl_Md_75 at_m rfl ?_
    refine zx_iload (q := 104) dd_Md_opened_102 rfl rfl ?_
    refine zx_iload_n (q := 105) dd_Md_opened_104 rfl rfl ?_
    refine zx_iast (q := 106) dd_Md_opened_105 rfl at_m21 rfl (by omega) (by decide) up_m21 ?_
    refine zx_aload_n (q := 107) dd_Md_opened_106 rfl rfl ?_
    refine zx_get (q := 110) dd_Md_opened_107 rfl fl_Md_78 at_m rfl ?_
    refine zx_iload (q := 112) dd_Md_opened_110 rfl rfl ?_
    refine zx_iconst (nI 1) (q := 113) dd_Md_opened_112 rfl (by decide) ?_
    refine zx_iast (q := 114) dd_Md_opened_113 rfl at_m22 rfl (by omega) (by decide) up_m22 ?_
    refine zx_aload_n (q := 115) dd_Md_opened_114 rfl rfl ?_
    refine zx_get (q := 118) dd_Md_opened_115 rfl fl_Md_84 at_m rfl ?_
    refine zx_iload (q := 120) dd_Md_opened_118 rfl rfl ?_
    refine zx_iconst (nI 0) (q := 121) dd_Md_opened_120 rfl (by decide) ?_
    refine zx_iast (q := 122) dd_Md_opened_121 rfl at_m24 rfl (by omega) (by decide) up_m24 ?_
    refine zx_aload_n (q := 123) dd_Md_opened_122 rfl rfl ?_
    refine zx_get (q := 126) dd_Md_opened_123 rfl fl_Md_87 at_m rfl ?_
    refine zx_iload (q := 128) dd_Md_opened_126 rfl rfl ?_
    refine zx_iconst (nI 0) (q := 129) dd_Md_opened_128 rfl (by decide) ?_
    refine zx_zast (q := 130) dd_Md_opened_129 rfl at_m25 rfl (by omega) (by decide) up_m25 ?_
    refine zx_aload_n (q := 131) dd_Md_opened_130 rfl rfl ?_
    refine zx_get (q := 134) dd_Md_opened_131 rfl fl_Md_90 at_m rfl ?_
    refine zx_iload (q := 136) dd_Md_opened_134 rfl rfl ?_
    refine zx_aload_n (q := 137) dd_Md_opened_136 rfl rfl ?_
    refine zx_get (q := 140) dd_Md_opened_137 rfl fl_Md_153 at_m rfl ?_
    refine zx_sipush (nI 750) (q := 143) dd_Md_opened_140 rfl (by decide) ?_
    refine zx_iadd (q := 144) dd_Md_opened_143 rfl ?_
    refine zx_iast (q := 145) dd_Md_opened_144 rfl at_m26 rfl (by omega) (by decide) up_m26 ?_
    refine zx_iload (q := 147) dd_Md_opened_145 rfl rfl ?_
    refine zx_if_ne 157 (q := 150) dd_Md_opened_147 rfl (by decide) (fun hc5 => ?_) (fun hc5 => ?_)
    · skip
      exact zx_vret dd_Md_opened_157 rfl (hq _ (by first | (simp [pm_opened, pm_opn, he1, hc1, nI_clamp (show u < 2 ^ 31 by omega), he4, hc5]; done) | (clear hq; simp_all [pm_opened, pm_opn]; done)) hw4)
    · skip
      refine zx_aload_n (q := 151) dd_Md_opened_150 rfl rfl ?_
      refine zx_iload_n (q := 152) dd_Md_opened_151 rfl rfl ?_
      refine zx_iload (q := 154) dd_Md_opened_152 rfl rfl ?_
      refine zx_cV2v (q := 157) dd_Md_opened_154 rfl cv_Md_opened_201 ⟨rfl, rfl⟩ at_m rfl rfl (Nat.le_of_ble_eq_true rfl) ⟨Nat.zero_le _, Nat.zero_le _⟩ (ok_Md_grant hf (by omega) hw4 fun D5 he5 hw5 => ⟨rfl, ?_⟩)
      obtain ⟨t5, fr5, lo5, I5, J5⟩ := D5
      exact zx_vret dd_Md_opened_157 rfl (hq _ (by first | (simp [pm_opened, pm_opn, he1, hc1, nI_clamp (show u < 2 ^ 31 by omega), he4, eq_true hc5, he5]; done) | (clear hq; simp_all [pm_opened, pm_opn]; done)) hw5)
set_option maxRecDepth 100000 in
set_option maxHeartbeats 4000000 in
theorem lo_Md_granted {E : zxE} {b n f c a s : Nat} {B : zB} {F : Nat → zFn} {Q : Option Value → zxH → Nat → Prop} (hf : f < 5) (hc : c < 256) (ha : a < 256) (hs9 : s < 256) : ∀ (k q : Nat) (D : zMd), k = min (a + c) (s + 1) - q → q < 1000 → D.2.1 ≤ 48 → pm_pk (D.2.2.2.1 13 f) = nI s → (∀ D', pm_sends f k q D = D' → D'.2.1 ≤ 48 → Q none (zs b (B, F, D')) n) → zx_X E mi_Md_granted (zx_Y E mi_Md_granted Q) 42 [some (.ref (b + 71)), some (.int (nI f)), some (.int (nI c)), some (.int (nI a)), some (.int (nI q))] [] (zs b (B, F, D)) n 0 0 := by
  intro k
  induction k with
  | zero =>
    intro q D h1 h2 hw hs hq
    have hq := hq D rfl hw
    obtain ⟨t, fr, lo, I, J⟩ := D
    have hs : pm_pk (I 13 f) = nI s := hs
    refine zx_iload (q := 44) dd_Md_granted_42 rfl rfl ?_
    refine zx_iload_n (q := 45) dd_Md_granted_44 rfl rfl ?_
    refine zx_iload_n (q := 46) dd_Md_granted_45 rfl rfl ?_
    refine zx_iadd (q := 47) dd_Md_granted_46 rfl ?_
    refine zx_topi (nI_add _ _) ?_
    refine zx_icmp_ge 77 (q := 50) dd_Md_granted_47 rfl (by decide) (fun hc1 => ?_) (fun hc1 => ?_)
    · skip
      exact zx_vret dd_Md_granted_77 rfl hq
    · skip
      replace hc1 : ¬ a + c ≤ q := fun z => hc1 ((nI_leI (by omega) (by omega)).mpr z)
      refine zx_iload (q := 52) dd_Md_granted_50 rfl rfl ?_
      refine zx_aload_n (q := 53) dd_Md_granted_52 rfl rfl ?_
      refine zx_get (q := 56) dd_Md_granted_53 rfl fl_Md_51 at_m rfl ?_
      refine zx_iload_n (q := 57) dd_Md_granted_56 rfl rfl ?_
      refine zx_iald (q := 58) dd_Md_granted_57 rfl at_m13 rfl (by omega) (by decide) ?_
      refine zx_cS1i (q := 61) dd_Md_granted_58 rfl cs_Md_granted_170 ⟨rfl, rfl⟩ (Nat.le_of_ble_eq_true rfl) ⟨Nat.zero_le _, Nat.zero_le _⟩ (ok_Md_packets ⟨_, rfl, ?_⟩)
      rw [hs]
      refine zx_icmp_gt 77 (q := 64) dd_Md_granted_61 rfl (by decide) (fun hc2 => ?_) (fun hc2 => absurd ((nI_ltI (by omega) (by omega)).mpr (by omega)) hc2)
      exact zx_vret dd_Md_granted_77 rfl hq
  | succ k ih =>
    intro q D h1 h2 hw hs hq
    obtain ⟨t, fr, lo, I, J⟩ := D
    have hs : pm_pk (I 13 f) = nI s := hs
    refine zx_iload (q := 44) dd_Md_granted_42 rfl rfl ?_
    refine zx_iload_n (q := 45) dd_Md_granted_44 rfl rfl ?_
    refine zx_iload_n (q := 46) dd_Md_granted_45 rfl rfl ?_
    refine zx_iadd (q := 47) dd_Md_granted_46 rfl ?_
    refine zx_topi (nI_add _ _) ?_
    refine zx_icmp_ge 77 (q := 50) dd_Md_granted_47 rfl (by decide) (fun hc1 => absurd hc1 (fun z => absurd ((nI_leI (by omega) (by omega)).mp z) (by omega))) (fun hc1 => ?_)
    refine zx_iload (q := 52) dd_Md_granted_50 rfl rfl ?_
    refine zx_aload_n (q := 53) dd_Md_granted_52 rfl rfl ?_
    refine zx_get (q := 56) dd_Md_granted_53 rfl fl_Md_51 at_m rfl ?_
    refine zx_iload_n (q := 57) dd_Md_granted_56 rfl rfl ?_
    refine zx_iald (q := 58) dd_Md_granted_57 rfl at_m13 rfl (by omega) (by decide) ?_
    refine zx_cS1i (q := 61) dd_Md_granted_58 rfl cs_Md_granted_170 ⟨rfl, rfl⟩ (Nat.le_of_ble_eq_true rfl) ⟨Nat.zero_le _, Nat.zero_le _⟩ (ok_Md_packets ⟨_, rfl, ?_⟩)
    rw [hs]
    refine zx_icmp_gt 77 (q := 64) dd_Md_granted_61 rfl (by decide) (fun hc2 => absurd hc2 (fun z => absurd ((nI_ltI (by omega) (by omega)).mp z) (by omega))) (fun hc2 => ?_)
    refine zx_aload_n (q := 65) dd_Md_granted_64 rfl rfl ?_
    refine zx_iload_n (q := 66) dd_Md_granted_65 rfl rfl ?_
    refine zx_iload (q := 68) dd_Md_granted_66 rfl rfl ?_
    refine zx_cV2v (q := 71) dd_Md_granted_68 rfl cv_Md_granted_194 ⟨rfl, rfl⟩ at_m rfl rfl (Nat.le_of_ble_eq_true rfl) ⟨Nat.zero_le _, Nat.zero_le _⟩ (ok_Md_putPacket hf hw fun D1 he1 hw1 => ⟨rfl, ?_⟩)
    refine zx_iincN_4 (q := 74) dd_Md_granted_71 rfl (by decide) rfl ?_
    refine zx_goto 42 dd_Md_granted_74 (by decide) ?_
    exact ih (q + 1) D1 (by omega) (by omega) hw1 (by rw [← he1, pm_putP_I (by decide) (by decide)]; exact hs) (fun D' h => hq D' (by rw [← h, ← he1]; rfl))
set_option maxRecDepth 100000 in
set_option maxHeartbeats 4000000 in
theorem ok_Md_granted {E : zxE} {b n : Nat} {B : zB} {F : Nat → zFn} {D : zMd} {Q : Option Value → zxH → Nat → Prop} {f c a s : Nat} (hf : f < 5) (hc : c < 256) (ha : a < 256) (hs9 : s < 256) (hs : pm_pk (D.2.2.2.1 13 f) = nI s) (hw : D.2.1 ≤ 48) (hq : ∀ D', pm_granted D f c a s = D' → D'.2.1 ≤ 48 → Q none (zs b (B, F, D')) n) : zx_Ok E my_Md_granted mi_Md_granted [.ref (b + 71), .int (nI f), .int (nI c), .int (nI a)] (zs b (B, F, D)) n Q := by
  obtain ⟨t, fr, lo, I, J⟩ := D
  have hs : pm_pk (I 13 f) = nI s := hs
  refine zx_start [some (.ref (b + 71)), some (.int (nI f)), some (.int (nI c)), some (.int (nI a)), none] (by decide) rfl rfl (Nat.le_of_ble_eq_true rfl) rfl ?_
  refine zx_aload_n (q := 1) dd_Md_granted_0 rfl rfl ?_
  refine zx_get (q := 4) dd_Md_granted_1 rfl fl_Md_39 at_m rfl ?_
  refine zx_iload_n (q := 5) dd_Md_granted_4 rfl rfl ?_
  refine zx_iload_n (q := 6) dd_Md_granted_5 rfl rfl ?_
  refine zx_if_le 13 (q := 9) dd_Md_granted_6 rfl (by decide) (fun hc1 => ?_) (fun hc1 => ?_)
  · skip
    have hc0 : c = 0 := by
      have := (nI_leI (a := c) (b := 0) (by omega) (by decide)).mp hc1
      omega
    replace hc1 := eq_true hc0
    refine zx_iconst (nI 3) (q := 14) dd_Md_granted_13 rfl (by decide) ?_
    refine zx_iast (q := 15) dd_Md_granted_14 rfl at_m9 rfl (by omega) (by decide) up_m9 ?_
    refine zx_aload_n (q := 16) dd_Md_granted_15 rfl rfl ?_
    refine zx_get (q := 19) dd_Md_granted_16 rfl fl_Md_60 at_m rfl ?_
    refine zx_iload_n (q := 20) dd_Md_granted_19 rfl rfl ?_
    refine zx_aload_n (q := 21) dd_Md_granted_20 rfl rfl ?_
    refine zx_get (q := 24) dd_Md_granted_21 rfl fl_Md_153 at_m rfl ?_
    refine zx_iload_n (q := 25) dd_Md_granted_24 rfl rfl ?_
    refine zx_if_le 34 (q := 28) dd_Md_granted_25 rfl (by decide) (fun hc2 => ?_) (fun hc2 => absurd ((nI_leI (by omega) (by decide)).mpr (by omega)) hc2)
    refine zx_sipush (nI 1050) (q := 37) dd_Md_granted_34 rfl (by decide) ?_
    refine zx_iadd (q := 38) dd_Md_granted_37 rfl ?_
    refine zx_iast (q := 39) dd_Md_granted_38 rfl at_m16 rfl (by omega) (by decide) up_m16 ?_
    refine zx_iload_n (q := 40) dd_Md_granted_39 rfl rfl ?_
    refine zx_istore_4 (q := 42) dd_Md_granted_40 rfl (by decide) rfl ?_
    exact lo_Md_granted hf hc ha hs9 (pm_grantN a c s) a _ rfl (by omega) hw (by simp only [up2_r]; simp; exact hs) (fun D' h => hq D' (by simp [pm_granted, hc1, h]))
  · skip
    replace hc1 : ¬ c = 0 := fun z => hc1 (by rw [z]; decide)
    refine zx_iconst (nI 2) (q := 10) dd_Md_granted_9 rfl (by decide) ?_
    refine zx_goto 14 dd_Md_granted_10 (by decide) ?_
    refine zx_iast (q := 15) dd_Md_granted_14 rfl at_m9 rfl (by omega) (by decide) up_m9 ?_
    refine zx_aload_n (q := 16) dd_Md_granted_15 rfl rfl ?_
    refine zx_get (q := 19) dd_Md_granted_16 rfl fl_Md_60 at_m rfl ?_
    refine zx_iload_n (q := 20) dd_Md_granted_19 rfl rfl ?_
    refine zx_aload_n (q := 21) dd_Md_granted_20 rfl rfl ?_
    refine zx_get (q := 24) dd_Md_granted_21 rfl fl_Md_153 at_m rfl ?_
    refine zx_iload_n (q := 25) dd_Md_granted_24 rfl rfl ?_
    refine zx_if_le 34 (q := 28) dd_Md_granted_25 rfl (by decide) (fun hc3 => absurd hc3 (fun z => absurd ((nI_leI (a := c) (b := 0) (by omega) (by decide)).mp z) (by omega))) (fun hc3 => ?_)
    refine zx_sipush (nI 1250) (q := 31) dd_Md_granted_28 rfl (by decide) ?_
    refine zx_goto 37 dd_Md_granted_31 (by decide) ?_
    refine zx_iadd (q := 38) dd_Md_granted_37 rfl ?_
    refine zx_iast (q := 39) dd_Md_granted_38 rfl at_m16 rfl (by omega) (by decide) up_m16 ?_
    refine zx_iload_n (q := 40) dd_Md_granted_39 rfl rfl ?_
    refine zx_istore_4 (q := 42) dd_Md_granted_40 rfl (by decide) rfl ?_
    exact lo_Md_granted hf hc ha hs9 (pm_grantN a c s) a _ rfl (by omega) hw (by simp only [up2_r]; simp; exact hs) (fun D' h => hq D' (by simp [pm_granted, hc1, h]))
set_option maxRecDepth 100000 in
set_option maxHeartbeats 4000000 in
theorem lo_Md_keep {E : zxE} {b n : Nat} {B : zB} {F : Nat → zFn} {Q : Option Value → zxH → Nat → Prop} {t lo : Int32} {fr : Nat} {I : Nat → Nat → Int32} {J : Nat → Nat → Int64} {f s k : Nat} {d : Int64} (hf : f < 5) (hs : s < 10) (hk1 : 1 ≤ k) (hk7 : k ≤ 7) (hr : zx_X E mi_Md_keep (zx_Y E mi_Md_keep Q) 67 [some (.ref (b + 71)), some (.int (nI f)), some (.int (nI s)), some (.int (nI k)), some (.long d), none, some (.int (nI 7)), none] [] (zs b (B, F, (t, fr, lo, pm_kpB I s k d 7, J))) n 0 0) : ∀ j m : Nat, m + j = 7 → zx_X E mi_Md_keep (zx_Y E mi_Md_keep Q) 3 [some (.ref (b + 71)), some (.int (nI f)), some (.int (nI s)), some (.int (nI k)), some (.long d), none, some (.int (nI m)), none] [] (zs b (B, F, (t, fr, lo, pm_kpB I s k d m, J))) n 0 0 := by
  intro j
  induction j with
  | zero =>
    intro m h2
    have h3 : m = 7 := by omega
    subst h3
    refine zx_iload (q := 5) dd_Md_keep_3 rfl rfl ?_
    refine zx_bipush (nI 7) (q := 7) dd_Md_keep_5 rfl (by decide) ?_
    refine zx_icmp_ge 67 (q := 10) dd_Md_keep_7 rfl (by decide) (fun hc1 => ?_) (fun hc1 => absurd (by decide) hc1)
    exact hr
  | succ j ih =>
    intro m h2
    have ih := ih (m + 1) (by omega)
    rw [← pm_kpB_s] at ih
    refine zx_iload (q := 5) dd_Md_keep_3 rfl rfl ?_
    refine zx_bipush (nI 7) (q := 7) dd_Md_keep_5 rfl (by decide) ?_
    refine zx_icmp_ge 67 (q := 10) dd_Md_keep_7 rfl (by decide) (fun hc1 => absurd hc1 (fun z => absurd ((nI_leI (by decide) (by omega)).mp z) (by omega))) (fun hc1 => ?_)
    refine zx_bipush (nI 7) (q := 12) dd_Md_keep_10 rfl (by decide) ?_
    refine zx_iload_n (q := 13) dd_Md_keep_12 rfl rfl ?_
    refine zx_imul (q := 14) dd_Md_keep_13 rfl ?_
    refine zx_topi (pk_mul _ _) ?_
    refine zx_bipush (nI 7) (q := 16) dd_Md_keep_14 rfl (by decide) ?_
    refine zx_isub (q := 17) dd_Md_keep_16 rfl ?_
    refine zx_topi (pk_sub (by omega)) ?_
    refine zx_iload (q := 19) dd_Md_keep_17 rfl rfl ?_
    refine zx_iadd (q := 20) dd_Md_keep_19 rfl ?_
    refine zx_topi (nI_add _ _) ?_
    refine zx_bipush (nI 49) (q := 22) dd_Md_keep_20 rfl (by decide) ?_
    refine zx_icmp_ge 67 (q := 25) dd_Md_keep_22 rfl (by decide) (fun hc2 => absurd hc2 (fun z => absurd ((nI_leI (by decide) (by omega)).mp z) (by omega))) (fun hc2 => ?_)
    refine zx_aload_n (q := 26) dd_Md_keep_25 rfl rfl ?_
    refine zx_get (q := 29) dd_Md_keep_26 rfl fl_Md_93 at_m rfl ?_
    refine zx_bipush (nI 49) (q := 31) dd_Md_keep_29 rfl (by decide) ?_
    refine zx_iload_n (q := 32) dd_Md_keep_31 rfl rfl ?_
    refine zx_imul (q := 33) dd_Md_keep_32 rfl ?_
    refine zx_topi (pk_mul _ _) ?_
    refine zx_bipush (nI 7) (q := 35) dd_Md_keep_33 rfl (by decide) ?_
    refine zx_iload_n (q := 36) dd_Md_keep_35 rfl rfl ?_
    refine zx_imul (q := 37) dd_Md_keep_36 rfl ?_
    refine zx_topi (pk_mul _ _) ?_
    refine zx_iadd (q := 38) dd_Md_keep_37 rfl ?_
    refine zx_topi (nI_add _ _) ?_
    refine zx_bipush (nI 7) (q := 40) dd_Md_keep_38 rfl (by decide) ?_
    refine zx_isub (q := 41) dd_Md_keep_40 rfl ?_
    refine zx_topi (pk_sub (by omega)) ?_
    refine zx_iload (q := 43) dd_Md_keep_41 rfl rfl ?_
    refine zx_iadd (q := 44) dd_Md_keep_43 rfl ?_
    refine zx_topi (nI_add _ _) ?_
    refine zx_lload (q := 46) dd_Md_keep_44 rfl rfl ?_
    refine zx_bipush (nI 8) (q := 48) dd_Md_keep_46 rfl (by decide) ?_
    refine zx_iload (q := 50) dd_Md_keep_48 rfl rfl ?_
    refine zx_imul (q := 51) dd_Md_keep_50 rfl ?_
    refine zx_topi (pk_mul _ _) ?_
    refine zx_bipush (nI 8) (q := 53) dd_Md_keep_51 rfl (by decide) ?_
    refine zx_iadd (q := 54) dd_Md_keep_53 rfl ?_
    refine zx_topi (nI_add _ _) ?_
    refine zx_lshr (q := 55) dd_Md_keep_54 rfl ?_
    refine zx_ldc2 _ (q := 58) dd_Md_keep_55 rfl kk_Md_126 ?_
    refine zx_land (q := 59) dd_Md_keep_58 rfl ?_
    refine zx_l2i (q := 60) dd_Md_keep_59 rfl ?_
    refine zx_iast (q := 61) dd_Md_keep_60 rfl at_m27 rfl (by omega) (by decide) up_m27 ?_
    refine zx_iincN_6 (q := 64) dd_Md_keep_61 rfl (by decide) rfl ?_
    refine zx_goto 3 dd_Md_keep_64 (by decide) ?_
    exact ih
set_option maxRecDepth 100000 in
set_option maxHeartbeats 4000000 in
theorem lo_Md_keep2 {E : zxE} {b n : Nat} {B : zB} {F : Nat → zFn} {Q : Option Value → zxH → Nat → Prop} {t lo : Int32} {fr : Nat} {I : Nat → Nat → Int32} {J : Nat → Nat → Int64} {f s k : Nat} {d : Int64} {nn : Int32} (hf : f < 5) (hs : s < 10) (hw : fr ≤ 48) (hq : ∀ D', pm_close (t, fr, lo, pm_lsB I f s 49, J) f s = D' → D'.2.1 ≤ 48 → Q none (zs b (B, F, D')) n) : ∀ j i : Nat, i + j = 49 → zx_X E mi_Md_keep (zx_Y E mi_Md_keep Q) 269 [some (.ref (b + 71)), some (.int (nI f)), some (.int (nI s)), some (.int (nI k)), some (.long d), none, some (.int nn), some (.int (nI i))] [] (zs b (B, F, (t, fr, lo, pm_lsB I f s i, J))) n 0 0 := by
  intro j
  induction j with
  | zero =>
    intro i h2
    have h3 : i = 49 := by omega
    subst h3
    refine zx_iload (q := 271) dd_Md_keep_269 rfl rfl ?_
    refine zx_bipush (nI 49) (q := 273) dd_Md_keep_271 rfl (by decide) ?_
    refine zx_icmp_ge 306 (q := 276) dd_Md_keep_273 rfl (by decide) (fun hc1 => ?_) (fun hc1 => absurd (by decide) hc1)
    refine zx_aload_n (q := 307) dd_Md_keep_306 rfl rfl ?_
    refine zx_iload_n (q := 308) dd_Md_keep_307 rfl rfl ?_
    refine zx_iload_n (q := 309) dd_Md_keep_308 rfl rfl ?_
    refine zx_cV2v (q := 312) dd_Md_keep_309 rfl cv_Md_keep_191 ⟨rfl, rfl⟩ at_m rfl rfl (Nat.le_of_ble_eq_true rfl) ⟨Nat.zero_le _, Nat.zero_le _⟩ (ok_Md_close hf hs hw fun D6 he6 hw6 => ⟨rfl, ?_⟩)
    obtain ⟨t6, fr6, lo6, I6, J6⟩ := D6
    exact zx_vret dd_Md_keep_312 rfl (hq _ he6 hw6)
  | succ j ih =>
    intro i h2
    have ih := ih (i + 1) (by omega)
    rw [← pm_lsB_s] at ih
    refine zx_iload (q := 271) dd_Md_keep_269 rfl rfl ?_
    refine zx_bipush (nI 49) (q := 273) dd_Md_keep_271 rfl (by decide) ?_
    refine zx_icmp_ge 306 (q := 276) dd_Md_keep_273 rfl (by decide) (fun hc1 => absurd hc1 (fun z => absurd ((nI_leI (by decide) (by omega)).mp z) (by omega))) (fun hc1 => ?_)
    refine zx_aload_n (q := 277) dd_Md_keep_276 rfl rfl ?_
    refine zx_get (q := 280) dd_Md_keep_277 rfl fl_Md_102 at_m rfl ?_
    refine zx_bipush (nI 49) (q := 282) dd_Md_keep_280 rfl (by decide) ?_
    refine zx_iload_n (q := 283) dd_Md_keep_282 rfl rfl ?_
    refine zx_imul (q := 284) dd_Md_keep_283 rfl ?_
    refine zx_topi (pk_mul _ _) ?_
    refine zx_iload (q := 286) dd_Md_keep_284 rfl rfl ?_
    refine zx_iadd (q := 287) dd_Md_keep_286 rfl ?_
    refine zx_topi (nI_add _ _) ?_
    refine zx_aload_n (q := 288) dd_Md_keep_287 rfl rfl ?_
    refine zx_get (q := 291) dd_Md_keep_288 rfl fl_Md_93 at_m rfl ?_
    refine zx_bipush (nI 49) (q := 293) dd_Md_keep_291 rfl (by decide) ?_
    refine zx_iload_n (q := 294) dd_Md_keep_293 rfl rfl ?_
    refine zx_imul (q := 295) dd_Md_keep_294 rfl ?_
    refine zx_topi (pk_mul _ _) ?_
    refine zx_iload (q := 297) dd_Md_keep_295 rfl rfl ?_
    refine zx_iadd (q := 298) dd_Md_keep_297 rfl ?_
    refine zx_topi (nI_add _ _) ?_
    refine zx_iald (q := 299) dd_Md_keep_298 rfl at_m27 rfl (by omega) (by decide) ?_
    refine zx_iast (q := 300) dd_Md_keep_299 rfl at_m30 rfl (by omega) (by decide) up_m30 ?_
    refine zx_iincN_7 (q := 303) dd_Md_keep_300 rfl (by decide) rfl ?_
    refine zx_goto 269 dd_Md_keep_303 (by decide) ?_
    exact ih
set_option maxRecDepth 100000 in
set_option maxHeartbeats 4000000 in
theorem ok_Md_keep {E : zxE} {b n : Nat} {B : zB} {F : Nat → zFn} {D : zMd} {Q : Option Value → zxH → Nat → Prop} {f s k : Nat} {d : Int64} (hf : f < 5) (hs : s < 10) (hk1 : 1 ≤ k) (hk7 : k ≤ 7) (hw : D.2.1 ≤ 48) (hq : ∀ D', pm_keep D f s k d = D' → D'.2.1 ≤ 48 → Q none (zs b (B, F, D')) n) : zx_Ok E my_Md_keep mi_Md_keep [.ref (b + 71), .int (nI f), .int (nI s), .int (nI k), .long d] (zs b (B, F, D)) n Q := by
  obtain ⟨t, fr, lo, I, J⟩ := D
  refine zx_start [some (.ref (b + 71)), some (.int (nI f)), some (.int (nI s)), some (.int (nI k)), some (.long d), none, none, none] (by decide) rfl rfl (Nat.le_of_ble_eq_true rfl) rfl ?_
  refine zx_iconst (nI 0) (q := 1) dd_Md_keep_0 rfl (by decide) ?_
  refine zx_istore_6 (q := 3) dd_Md_keep_1 rfl (by decide) rfl ?_
  have hr : zx_X E mi_Md_keep (zx_Y E mi_Md_keep Q) 67 [some (.ref (b + 71)), some (.int (nI f)), some (.int (nI s)), some (.int (nI k)), some (.long d), none, some (.int (nI 7)), none] [] (zs b (B, F, (t, fr, lo, pm_kpB I s k d 7, J))) n 0 0 := by
    refine zx_aload_n (q := 68) dd_Md_keep_67 rfl rfl ?_
    refine zx_get (q := 71) dd_Md_keep_68 rfl fl_Md_78 at_m rfl ?_
    refine zx_iload_n (q := 72) dd_Md_keep_71 rfl rfl ?_
    refine zx_dup2 (q := 73) dd_Md_keep_72 rfl rfl rfl ?_
    refine zx_iald (q := 74) dd_Md_keep_73 rfl at_m22 rfl (by omega) (by decide) ?_
    refine zx_topr (I := I) (fun j => by simp [up2_r, pm_kpB_r]) ?_
    refine zx_iconst (nI 1) (q := 75) dd_Md_keep_74 rfl (by decide) ?_
    refine zx_iadd (q := 76) dd_Md_keep_75 rfl ?_
    refine zx_iast (q := 77) dd_Md_keep_76 rfl at_m22 rfl (by omega) (by decide) up_m22 ?_
    refine zx_aload_n (q := 78) dd_Md_keep_77 rfl rfl ?_
    refine zx_get (q := 81) dd_Md_keep_78 rfl fl_Md_75 at_m rfl ?_
    refine zx_iload_n (q := 82) dd_Md_keep_81 rfl rfl ?_
    refine zx_iald (q := 83) dd_Md_keep_82 rfl at_m21 rfl (by omega) (by decide) ?_
    refine zx_topr (I := I) (fun j => by simp [up2_r, pm_kpB_r]) ?_
    refine zx_cS1i (q := 86) dd_Md_keep_83 rfl cs_Md_keep_170 ⟨rfl, rfl⟩ (Nat.le_of_ble_eq_true rfl) ⟨Nat.zero_le _, Nat.zero_le _⟩ (ok_Md_packets ⟨_, rfl, ?_⟩)
    refine zx_istore_6 (q := 88) dd_Md_keep_86 rfl (by decide) rfl ?_
    refine zx_iload_n (q := 89) dd_Md_keep_88 rfl rfl ?_
    refine zx_iload (q := 91) dd_Md_keep_89 rfl rfl ?_
    refine zx_icmp_ge 137 (q := 94) dd_Md_keep_91 rfl (by decide) (fun hc1 => ?_) (fun hc1 => ?_)
    · skip
      refine zx_aload_n (q := 138) dd_Md_keep_137 rfl rfl ?_
      refine zx_get (q := 141) dd_Md_keep_138 rfl fl_Md_66 at_m rfl ?_
      refine zx_iload_n (q := 142) dd_Md_keep_141 rfl rfl ?_
      refine zx_zald (q := 143) dd_Md_keep_142 rfl at_m18 rfl (by omega) (by decide) ?_
      refine zx_topr (I := I) (fun j => by simp [up2_r, pm_kpB_r]) ?_
      refine zx_if_ne 186 (q := 146) dd_Md_keep_143 rfl (by decide) (fun hc2 => ?_) (fun hc2 => ?_)
      · skip
        refine zx_aload_n (q := 187) dd_Md_keep_186 rfl rfl ?_
        refine zx_get (q := 190) dd_Md_keep_187 rfl fl_Md_96 at_m rfl ?_
        refine zx_iload_n (q := 191) dd_Md_keep_190 rfl rfl ?_
        refine zx_dup2 (q := 192) dd_Md_keep_191 rfl rfl rfl ?_
        refine zx_iald (q := 193) dd_Md_keep_192 rfl at_m28 rfl (by omega) (by decide) ?_
        refine zx_topr (I := I) (fun j => by simp [up2_r, pm_kpB_r]) ?_
        refine zx_iconst (nI 1) (q := 194) dd_Md_keep_193 rfl (by decide) ?_
        refine zx_iadd (q := 195) dd_Md_keep_194 rfl ?_
        refine zx_iast (q := 196) dd_Md_keep_195 rfl at_m28 rfl (by omega) (by decide) up_m28 ?_
        refine zx_aload_n (q := 197) dd_Md_keep_196 rfl rfl ?_
        refine zx_get (q := 200) dd_Md_keep_197 rfl fl_Md_99 at_m rfl ?_
        refine zx_iconst (nI 4) (q := 201) dd_Md_keep_200 rfl (by decide) ?_
        refine zx_iload_n (q := 202) dd_Md_keep_201 rfl rfl ?_
        refine zx_imul (q := 203) dd_Md_keep_202 rfl ?_
        refine zx_topi (pk_mul _ _) ?_
        refine zx_aload_n (q := 204) dd_Md_keep_203 rfl rfl ?_
        refine zx_get (q := 207) dd_Md_keep_204 rfl fl_Md_69 at_m rfl ?_
        refine zx_iload_n (q := 208) dd_Md_keep_207 rfl rfl ?_
        refine zx_iald (q := 209) dd_Md_keep_208 rfl at_m19 rfl (by omega) (by decide) ?_
        refine zx_topr (I := I) (fun j => by simp [up2_r, pm_kpB_r]) ?_
        refine zx_iast (q := 210) dd_Md_keep_209 rfl at_m29 rfl (by omega) (by decide) up_m29 ?_
        refine zx_aload_n (q := 211) dd_Md_keep_210 rfl rfl ?_
        refine zx_get (q := 214) dd_Md_keep_211 rfl fl_Md_99 at_m rfl ?_
        refine zx_iconst (nI 4) (q := 215) dd_Md_keep_214 rfl (by decide) ?_
        refine zx_iload_n (q := 216) dd_Md_keep_215 rfl rfl ?_
        refine zx_imul (q := 217) dd_Md_keep_216 rfl ?_
        refine zx_topi (pk_mul _ _) ?_
        refine zx_iconst (nI 1) (q := 218) dd_Md_keep_217 rfl (by decide) ?_
        refine zx_iadd (q := 219) dd_Md_keep_218 rfl ?_
        refine zx_topi (nI_add _ _) ?_
        refine zx_aload_n (q := 220) dd_Md_keep_219 rfl rfl ?_
        refine zx_get (q := 223) dd_Md_keep_220 rfl fl_Md_72 at_m rfl ?_
        refine zx_iload_n (q := 224) dd_Md_keep_223 rfl rfl ?_
        refine zx_iald (q := 225) dd_Md_keep_224 rfl at_m20 rfl (by omega) (by decide) ?_
        refine zx_topr (I := I) (fun j => by simp [up2_r, pm_kpB_r]) ?_
        refine zx_iast (q := 226) dd_Md_keep_225 rfl at_m29 rfl (by omega) (by decide) up_m29 ?_
        refine zx_aload_n (q := 227) dd_Md_keep_226 rfl rfl ?_
        refine zx_get (q := 230) dd_Md_keep_227 rfl fl_Md_99 at_m rfl ?_
        refine zx_iconst (nI 4) (q := 231) dd_Md_keep_230 rfl (by decide) ?_
        refine zx_iload_n (q := 232) dd_Md_keep_231 rfl rfl ?_
        refine zx_imul (q := 233) dd_Md_keep_232 rfl ?_
        refine zx_topi (pk_mul _ _) ?_
        refine zx_iconst (nI 2) (q := 234) dd_Md_keep_233 rfl (by decide) ?_
        refine zx_iadd (q := 235) dd_Md_keep_234 rfl ?_
        refine zx_topi (nI_add _ _) ?_
        refine zx_aload_n (q := 236) dd_Md_keep_235 rfl rfl ?_
        refine zx_get (q := 239) dd_Md_keep_236 rfl fl_Md_75 at_m rfl ?_
        refine zx_iload_n (q := 240) dd_Md_keep_239 rfl rfl ?_
        refine zx_iald (q := 241) dd_Md_keep_240 rfl at_m21 rfl (by omega) (by decide) ?_
        refine zx_topr (I := I) (fun j => by simp [up2_r, pm_kpB_r]) ?_
        refine zx_iast (q := 242) dd_Md_keep_241 rfl at_m29 rfl (by omega) (by decide) up_m29 ?_
        refine zx_aload_n (q := 243) dd_Md_keep_242 rfl rfl ?_
        refine zx_get (q := 246) dd_Md_keep_243 rfl fl_Md_99 at_m rfl ?_
        refine zx_iconst (nI 4) (q := 247) dd_Md_keep_246 rfl (by decide) ?_
        refine zx_iload_n (q := 248) dd_Md_keep_247 rfl rfl ?_
        refine zx_imul (q := 249) dd_Md_keep_248 rfl ?_
        refine zx_topi (pk_mul _ _) ?_
        refine zx_iconst (nI 3) (q := 250) dd_Md_keep_249 rfl (by decide) ?_
        refine zx_iadd (q := 251) dd_Md_keep_250 rfl ?_
        refine zx_topi (nI_add _ _) ?_
        refine zx_aload_n (q := 252) dd_Md_keep_251 rfl rfl ?_
        refine zx_get (q := 255) dd_Md_keep_252 rfl fl_Md_66 at_m rfl ?_
        refine zx_iload_n (q := 256) dd_Md_keep_255 rfl rfl ?_
        refine zx_zald (q := 257) dd_Md_keep_256 rfl at_m18 rfl (by omega) (by decide) ?_
        refine zx_topr (I := I) (fun j => by simp [up2_r, pm_kpB_r]) ?_
        refine zx_if_eq 264 (q := 260) dd_Md_keep_257 rfl (by decide) (fun hc3 => ?_) (fun hc3 => ?_)
        · skip
          refine zx_iconst (nI 0) (q := 265) dd_Md_keep_264 rfl (by decide) ?_
          refine zx_iast (q := 266) dd_Md_keep_265 rfl at_m29 rfl (by omega) (by decide) up_m29 ?_
          refine zx_iconst (nI 0) (q := 267) dd_Md_keep_266 rfl (by decide) ?_
          refine zx_istore_7 (q := 269) dd_Md_keep_267 rfl (by decide) rfl ?_
          refine zx_heap (h' := zs b (B, F, (t, fr, lo, pm_lsB _ f s 0, J))) (by rw [pm_lsB_0]) ?_
          exact lo_Md_keep2 hf hs hw (fun D' h1 h2 => hq D' (by first | (simp [pm_keep, pm_kept, pm_whole, up2_r, pm_kpB_r, hc1, hc2, eq_true hc3, h1]; done) | (clear hq; simp_all; done)) h2) 49 0 (by omega)
        · skip
          refine zx_iconst (nI 1) (q := 261) dd_Md_keep_260 rfl (by decide) ?_
          refine zx_goto 265 dd_Md_keep_261 (by decide) ?_
          refine zx_iast (q := 266) dd_Md_keep_265 rfl at_m29 rfl (by omega) (by decide) up_m29 ?_
          refine zx_iconst (nI 0) (q := 267) dd_Md_keep_266 rfl (by decide) ?_
          refine zx_istore_7 (q := 269) dd_Md_keep_267 rfl (by decide) rfl ?_
          refine zx_heap (h' := zs b (B, F, (t, fr, lo, pm_lsB _ f s 0, J))) (by rw [pm_lsB_0]) ?_
          exact lo_Md_keep2 hf hs hw (fun D' h1 h2 => hq D' (by first | (simp [pm_keep, pm_kept, pm_whole, up2_r, pm_kpB_r, hc1, hc2, hc3, h1]; done) | (clear hq; simp_all; done)) h2) 49 0 (by omega)
      · skip
        refine zx_aload_n (q := 147) dd_Md_keep_146 rfl rfl ?_
        refine zx_iload_n (q := 148) dd_Md_keep_147 rfl rfl ?_
        refine zx_aload_n (q := 149) dd_Md_keep_148 rfl rfl ?_
        refine zx_get (q := 152) dd_Md_keep_149 rfl fl_Md_69 at_m rfl ?_
        refine zx_iload_n (q := 153) dd_Md_keep_152 rfl rfl ?_
        refine zx_iald (q := 154) dd_Md_keep_153 rfl at_m19 rfl (by omega) (by decide) ?_
        refine zx_topr (I := I) (fun j => by simp [up2_r, pm_kpB_r]) ?_
        refine zx_bipush (nI 19) (q := 156) dd_Md_keep_154 rfl (by decide) ?_
        refine zx_aload_n (q := 157) dd_Md_keep_156 rfl rfl ?_
        refine zx_get (q := 160) dd_Md_keep_157 rfl fl_Md_75 at_m rfl ?_
        refine zx_iload_n (q := 161) dd_Md_keep_160 rfl rfl ?_
        refine zx_iald (q := 162) dd_Md_keep_161 rfl at_m21 rfl (by omega) (by decide) ?_
        refine zx_topr (I := I) (fun j => by simp [up2_r, pm_kpB_r]) ?_
        refine zx_sipush (nI 255) (q := 165) dd_Md_keep_162 rfl (by decide) ?_
        refine zx_iand (q := 166) dd_Md_keep_165 rfl ?_
        refine zx_aload_n (q := 167) dd_Md_keep_166 rfl rfl ?_
        refine zx_get (q := 170) dd_Md_keep_167 rfl fl_Md_75 at_m rfl ?_
        refine zx_iload_n (q := 171) dd_Md_keep_170 rfl rfl ?_
        refine zx_iald (q := 172) dd_Md_keep_171 rfl at_m21 rfl (by omega) (by decide) ?_
        refine zx_topr (I := I) (fun j => by simp [up2_r, pm_kpB_r]) ?_
        refine zx_bipush (nI 8) (q := 174) dd_Md_keep_172 rfl (by decide) ?_
        refine zx_ishr (q := 175) dd_Md_keep_174 rfl ?_
        refine zx_iload (q := 177) dd_Md_keep_175 rfl rfl ?_
        refine zx_aload_n (q := 178) dd_Md_keep_177 rfl rfl ?_
        refine zx_get (q := 181) dd_Md_keep_178 rfl fl_Md_72 at_m rfl ?_
        refine zx_iload_n (q := 182) dd_Md_keep_181 rfl rfl ?_
        refine zx_iald (q := 183) dd_Md_keep_182 rfl at_m20 rfl (by omega) (by decide) ?_
        refine zx_topr (I := I) (fun j => by simp [up2_r, pm_kpB_r]) ?_
        refine zx_cV7v (q := 186) dd_Md_keep_183 rfl cv_Md_keep_122 ⟨rfl, rfl⟩ at_m rfl rfl (Nat.le_of_ble_eq_true rfl) ⟨Nat.zero_le _, Nat.zero_le _⟩ (ok_Md_putControl hf hw fun D7 he7 hw7 => ⟨rfl, ?_⟩)
        obtain ⟨t7, fr7, lo7, I7, J7⟩ := D7
        refine zx_aload_n (q := 187) dd_Md_keep_186 rfl rfl ?_
        refine zx_get (q := 190) dd_Md_keep_187 rfl fl_Md_96 at_m rfl ?_
        refine zx_iload_n (q := 191) dd_Md_keep_190 rfl rfl ?_
        refine zx_dup2 (q := 192) dd_Md_keep_191 rfl rfl rfl ?_
        refine zx_iald (q := 193) dd_Md_keep_192 rfl at_m28 rfl (by omega) (by decide) ?_
        refine zx_iconst (nI 1) (q := 194) dd_Md_keep_193 rfl (by decide) ?_
        refine zx_iadd (q := 195) dd_Md_keep_194 rfl ?_
        refine zx_iast (q := 196) dd_Md_keep_195 rfl at_m28 rfl (by omega) (by decide) up_m28 ?_
        refine zx_aload_n (q := 197) dd_Md_keep_196 rfl rfl ?_
        refine zx_get (q := 200) dd_Md_keep_197 rfl fl_Md_99 at_m rfl ?_
        refine zx_iconst (nI 4) (q := 201) dd_Md_keep_200 rfl (by decide) ?_
        refine zx_iload_n (q := 202) dd_Md_keep_201 rfl rfl ?_
        refine zx_imul (q := 203) dd_Md_keep_202 rfl ?_
        refine zx_topi (pk_mul _ _) ?_
        refine zx_aload_n (q := 204) dd_Md_keep_203 rfl rfl ?_
        refine zx_get (q := 207) dd_Md_keep_204 rfl fl_Md_69 at_m rfl ?_
        refine zx_iload_n (q := 208) dd_Md_keep_207 rfl rfl ?_
        refine zx_iald (q := 209) dd_Md_keep_208 rfl at_m19 rfl (by omega) (by decide) ?_
        refine zx_topr (I := I7) (fun j => by simp [up2_r]) ?_
        refine zx_iast (q := 210) dd_Md_keep_209 rfl at_m29 rfl (by omega) (by decide) up_m29 ?_
        refine zx_aload_n (q := 211) dd_Md_keep_210 rfl rfl ?_
        refine zx_get (q := 214) dd_Md_keep_211 rfl fl_Md_99 at_m rfl ?_
        refine zx_iconst (nI 4) (q := 215) dd_Md_keep_214 rfl (by decide) ?_
        refine zx_iload_n (q := 216) dd_Md_keep_215 rfl rfl ?_
        refine zx_imul (q := 217) dd_Md_keep_216 rfl ?_
        refine zx_topi (pk_mul _ _) ?_
        refine zx_iconst (nI 1) (q := 218) dd_Md_keep_217 rfl (by decide) ?_
        refine zx_iadd (q := 219) dd_Md_keep_218 rfl ?_
        refine zx_topi (nI_add _ _) ?_
        refine zx_aload_n (q := 220) dd_Md_keep_219 rfl rfl ?_
        refine zx_get (q := 223) dd_Md_keep_220 rfl fl_Md_72 at_m rfl ?_
        refine zx_iload_n (q := 224) dd_Md_keep_223 rfl rfl ?_
        refine zx_iald (q := 225) dd_Md_keep_224 rfl at_m20 rfl (by omega) (by decide) ?_
        refine zx_topr (I := I7) (fun j => by simp [up2_r]) ?_
        refine zx_iast (q := 226) dd_Md_keep_225 rfl at_m29 rfl (by omega) (by decide) up_m29 ?_
        refine zx_aload_n (q := 227) dd_Md_keep_226 rfl rfl ?_
        refine zx_get (q := 230) dd_Md_keep_227 rfl fl_Md_99 at_m rfl ?_
        refine zx_iconst (nI 4) (q := 231) dd_Md_keep_230 rfl (by decide) ?_
        refine zx_iload_n (q := 232) dd_Md_keep_231 rfl rfl ?_
        refine zx_imul (q := 233) dd_Md_keep_232 rfl ?_
        refine zx_topi (pk_mul _ _) ?_
        refine zx_iconst (nI 2) (q := 234) dd_Md_keep_233 rfl (by decide) ?_
        refine zx_iadd (q := 235) dd_Md_keep_234 rfl ?_
        refine zx_topi (nI_add _ _) ?_
        refine zx_aload_n (q := 236) dd_Md_keep_235 rfl rfl ?_
        refine zx_get (q := 239) dd_Md_keep_236 rfl fl_Md_75 at_m rfl ?_
        refine zx_iload_n (q := 240) dd_Md_keep_239 rfl rfl ?_
        refine zx_iald (q := 241) dd_Md_keep_240 rfl at_m21 rfl (by omega) (by decide) ?_
        refine zx_topr (I := I7) (fun j => by simp [up2_r]) ?_
        refine zx_iast (q := 242) dd_Md_keep_241 rfl at_m29 rfl (by omega) (by decide) up_m29 ?_
        refine zx_aload_n (q := 243) dd_Md_keep_242 rfl rfl ?_
        refine zx_get (q := 246) dd_Md_keep_243 rfl fl_Md_99 at_m rfl ?_
        refine zx_iconst (nI 4) (q := 247) dd_Md_keep_246 rfl (by decide) ?_
        refine zx_iload_n (q := 248) dd_Md_keep_247 rfl rfl ?_
        refine zx_imul (q := 249) dd_Md_keep_248 rfl ?_
        refine zx_topi (pk_mul _ _) ?_
        refine zx_iconst (nI 3) (q := 250) dd_Md_keep_249 rfl (by decide) ?_
        refine zx_iadd (q := 251) dd_Md_keep_250 rfl ?_
        refine zx_topi (nI_add _ _) ?_
        refine zx_aload_n (q := 252) dd_Md_keep_251 rfl rfl ?_
        refine zx_get (q := 255) dd_Md_keep_252 rfl fl_Md_66 at_m rfl ?_
        refine zx_iload_n (q := 256) dd_Md_keep_255 rfl rfl ?_
        refine zx_zald (q := 257) dd_Md_keep_256 rfl at_m18 rfl (by omega) (by decide) ?_
        refine zx_topr (I := I7) (fun j => by simp [up2_r]) ?_
        refine zx_if_eq 264 (q := 260) dd_Md_keep_257 rfl (by decide) (fun hc4 => ?_) (fun hc4 => ?_)
        · skip
          refine zx_iconst (nI 0) (q := 265) dd_Md_keep_264 rfl (by decide) ?_
          refine zx_iast (q := 266) dd_Md_keep_265 rfl at_m29 rfl (by omega) (by decide) up_m29 ?_
          refine zx_iconst (nI 0) (q := 267) dd_Md_keep_266 rfl (by decide) ?_
          refine zx_istore_7 (q := 269) dd_Md_keep_267 rfl (by decide) rfl ?_
          refine zx_heap (h' := zs b (B, F, (t7, fr7, lo7, pm_lsB _ f s 0, J7))) (by rw [pm_lsB_0]) ?_
          exact lo_Md_keep2 hf hs hw7 (fun D' h1 h2 => hq D' (by first | (simp [pm_keep, pm_kept, pm_whole, up2_r, pm_kpB_r, hc1, eq_true hc2, he7, eq_true hc4, h1]; done) | (clear hq; simp_all; done)) h2) 49 0 (by omega)
        · skip
          refine zx_iconst (nI 1) (q := 261) dd_Md_keep_260 rfl (by decide) ?_
          refine zx_goto 265 dd_Md_keep_261 (by decide) ?_
          refine zx_iast (q := 266) dd_Md_keep_265 rfl at_m29 rfl (by omega) (by decide) up_m29 ?_
          refine zx_iconst (nI 0) (q := 267) dd_Md_keep_266 rfl (by decide) ?_
          refine zx_istore_7 (q := 269) dd_Md_keep_267 rfl (by decide) rfl ?_
          refine zx_heap (h' := zs b (B, F, (t7, fr7, lo7, pm_lsB _ f s 0, J7))) (by rw [pm_lsB_0]) ?_
          exact lo_Md_keep2 hf hs hw7 (fun D' h1 h2 => hq D' (by first | (simp [pm_keep, pm_kept, pm_whole, up2_r, pm_kpB_r, hc1, eq_true hc2, he7, hc4, h1]; done) | (clear hq; simp_all; done)) h2) 49 0 (by omega)
    · skip
      refine zx_aload_n (q := 95) dd_Md_keep_94 rfl rfl ?_
      refine zx_get (q := 98) dd_Md_keep_95 rfl fl_Md_66 at_m rfl ?_
      refine zx_iload_n (q := 99) dd_Md_keep_98 rfl rfl ?_
      refine zx_zald (q := 100) dd_Md_keep_99 rfl at_m18 rfl (by omega) (by decide) ?_
      refine zx_topr (I := I) (fun j => by simp [up2_r, pm_kpB_r]) ?_
      refine zx_if_ne 122 (q := 103) dd_Md_keep_100 rfl (by decide) (fun hc5 => ?_) (fun hc5 => ?_)
      · skip
        refine zx_aload_n (q := 123) dd_Md_keep_122 rfl rfl ?_
        refine zx_get (q := 126) dd_Md_keep_123 rfl fl_Md_90 at_m rfl ?_
        refine zx_iload_n (q := 127) dd_Md_keep_126 rfl rfl ?_
        refine zx_aload_n (q := 128) dd_Md_keep_127 rfl rfl ?_
        refine zx_get (q := 131) dd_Md_keep_128 rfl fl_Md_153 at_m rfl ?_
        refine zx_sipush (nI 750) (q := 134) dd_Md_keep_131 rfl (by decide) ?_
        refine zx_iadd (q := 135) dd_Md_keep_134 rfl ?_
        refine zx_iast (q := 136) dd_Md_keep_135 rfl at_m26 rfl (by omega) (by decide) up_m26 ?_
        exact zx_vret dd_Md_keep_136 rfl (hq _ (by first | (simp [pm_keep, pm_kept, pm_setDue, up2_r, pm_kpB_r, hc1, hc5]; done) | (clear hq; simp_all [pm_keep, pm_kept, pm_setDue, up2_r, pm_kpB_r]; done)) hw)
      · skip
        refine zx_iload_n (q := 104) dd_Md_keep_103 rfl rfl ?_
        refine zx_aload_n (q := 105) dd_Md_keep_104 rfl rfl ?_
        refine zx_get (q := 108) dd_Md_keep_105 rfl fl_Md_81 at_m rfl ?_
        refine zx_iload_n (q := 109) dd_Md_keep_108 rfl rfl ?_
        refine zx_iald (q := 110) dd_Md_keep_109 rfl at_m23 rfl (by omega) (by decide) ?_
        refine zx_topr (I := I) (fun j => by simp [up2_r, pm_kpB_r]) ?_
        refine zx_icmp_ne 122 (q := 113) dd_Md_keep_110 rfl (by decide) (fun hc6 => ?_) (fun hc6 => ?_)
        · skip
          refine zx_aload_n (q := 123) dd_Md_keep_122 rfl rfl ?_
          refine zx_get (q := 126) dd_Md_keep_123 rfl fl_Md_90 at_m rfl ?_
          refine zx_iload_n (q := 127) dd_Md_keep_126 rfl rfl ?_
          refine zx_aload_n (q := 128) dd_Md_keep_127 rfl rfl ?_
          refine zx_get (q := 131) dd_Md_keep_128 rfl fl_Md_153 at_m rfl ?_
          refine zx_sipush (nI 750) (q := 134) dd_Md_keep_131 rfl (by decide) ?_
          refine zx_iadd (q := 135) dd_Md_keep_134 rfl ?_
          refine zx_iast (q := 136) dd_Md_keep_135 rfl at_m26 rfl (by omega) (by decide) up_m26 ?_
          exact zx_vret dd_Md_keep_136 rfl (hq _ (by first | (simp [pm_keep, pm_kept, pm_setDue, up2_r, pm_kpB_r, hc1, eq_true hc5, hc6]; done) | (clear hq; simp_all [pm_keep, pm_kept, pm_setDue, up2_r, pm_kpB_r]; done)) hw)
        · skip
          refine zx_aload_n (q := 114) dd_Md_keep_113 rfl rfl ?_
          refine zx_iload_n (q := 115) dd_Md_keep_114 rfl rfl ?_
          refine zx_iload_n (q := 116) dd_Md_keep_115 rfl rfl ?_
          refine zx_cV2v (q := 119) dd_Md_keep_116 rfl cv_Md_keep_201 ⟨rfl, rfl⟩ at_m rfl rfl (Nat.le_of_ble_eq_true rfl) ⟨Nat.zero_le _, Nat.zero_le _⟩ (ok_Md_grant hf hs hw fun D8 he8 hw8 => ⟨rfl, ?_⟩)
          obtain ⟨t8, fr8, lo8, I8, J8⟩ := D8
          refine zx_goto 136 dd_Md_keep_119 (by decide) ?_
          exact zx_vret dd_Md_keep_136 rfl (hq _ (by first | (simp [pm_keep, pm_kept, pm_setDue, up2_r, pm_kpB_r, hc1, eq_true hc5, eq_true hc6, he8]; done) | (clear hq; simp_all [pm_keep, pm_kept, pm_setDue, up2_r, pm_kpB_r]; done)) hw8)
  have hx := lo_Md_keep hf hs hk1 hk7 hr 7 0 (by omega)
  rw [pm_kpB_0] at hx
  exact hx
set_option maxRecDepth 100000 in
set_option maxHeartbeats 4000000 in
theorem ok_Md_packet {E : zxE} {b n : Nat} {B : zB} {F : Nat → zFn} {D : zMd} {Q : Option Value → zxH → Nat → Prop} {f c : Nat} {tg src : Int32} {d : Int64} (hf : f < 5) (hc : c ≤ 2) (hins : D.2.2.2.1 17 f = nI c) (hexp : ∀ u, 2 * f ≤ u → u < 2 * f + c → ∃ e : Nat, 1 ≤ e ∧ e ≤ 7 ∧ D.2.2.2.1 22 u = nI e) (hw : D.2.1 ≤ 48) (hq : ∀ D', pm_packet D f c tg src d = D' → D'.2.1 ≤ 48 → Q none (zs b (B, F, D')) n) : zx_Ok E my_Md_packet mi_Md_packet [.ref (b + 71), .int (nI f), .int tg, .int src, .long d] (zs b (B, F, D)) n Q := by
  obtain ⟨t, fr, lo, I, J⟩ := D
  have hins : I 17 f = nI c := hins
  have hexp : ∀ u, 2 * f ≤ u → u < 2 * f + c → ∃ e : Nat, 1 ≤ e ∧ e ≤ 7 ∧ I 22 u = nI e := hexp
  refine zx_start [some (.ref (b + 71)), some (.int (nI f)), some (.int tg), some (.int src), some (.long d), none, none, none] (by decide) rfl rfl (Nat.le_of_ble_eq_true rfl) rfl ?_
  refine zx_lload (q := 2) dd_Md_packet_0 rfl rfl ?_
  refine zx_ldc2 _ (q := 5) dd_Md_packet_2 rfl kk_Md_126 ?_
  refine zx_land (q := 6) dd_Md_packet_5 rfl ?_
  refine zx_l2i (q := 7) dd_Md_packet_6 rfl ?_
  refine zx_topi (x' := pm_fbk d) rfl ?_
  refine zx_istore_6 (q := 9) dd_Md_packet_7 rfl (by decide) rfl ?_
  refine zx_aload_n (q := 10) dd_Md_packet_9 rfl rfl ?_
  refine zx_iload_n (q := 11) dd_Md_packet_10 rfl rfl ?_
  refine zx_iload_n (q := 12) dd_Md_packet_11 rfl rfl ?_
  refine zx_iload_n (q := 13) dd_Md_packet_12 rfl rfl ?_
  refine zx_sipush (nI 255) (q := 16) dd_Md_packet_13 rfl (by decide) ?_
  refine zx_icmp_ne 23 (q := 19) dd_Md_packet_16 rfl (by decide) (fun hc1 => ?_) (fun hc1 => ?_)
  · skip
    refine zx_iconst (nI 0) (q := 24) dd_Md_packet_23 rfl (by decide) ?_
    refine zx_cV3i (q := 27) dd_Md_packet_24 rfl cv_Md_packet_175 ⟨rfl, rfl⟩ at_m rfl rfl (Nat.le_of_ble_eq_true rfl) ⟨Nat.zero_le _, Nat.zero_le _⟩ (ok_Md_find hf hc hins fun r9 he9 => ⟨_, rfl, ?_⟩)
    refine zx_istore_7 (q := 29) dd_Md_packet_27 rfl (by decide) rfl ?_
    refine zx_iload (q := 31) dd_Md_packet_29 rfl rfl ?_
    refine zx_if_ge 35 (q := 34) dd_Md_packet_31 rfl (by decide) (fun hc2 => ?_) (fun hc2 => ?_)
    · skip
      obtain ⟨u, hu1, hu2, hu3⟩ := pm_findK_n (I := I) c (2 * f) (fun z => Int32.lt_irrefl (Int32.lt_of_lt_of_le (he9 ▸ z) hc2))
      have hru : r9 = nI u := he9.symm.trans hu3
      subst hru
      obtain ⟨e, he1, he7, hee⟩ := hexp u hu1 hu2
      refine zx_iload (q := 37) dd_Md_packet_35 rfl rfl ?_
      refine zx_aload_n (q := 38) dd_Md_packet_37 rfl rfl ?_
      refine zx_get (q := 41) dd_Md_packet_38 rfl fl_Md_78 at_m rfl ?_
      refine zx_iload (q := 43) dd_Md_packet_41 rfl rfl ?_
      refine zx_iald (q := 44) dd_Md_packet_43 rfl at_m22 rfl (by omega) (by decide) ?_
      refine zx_icmp_ne 83 (q := 47) dd_Md_packet_44 rfl (by decide) (fun hc3 => ?_) (fun hc3 => ?_)
      · skip
        refine zx_aload_n (q := 84) dd_Md_packet_83 rfl rfl ?_
        refine zx_get (q := 87) dd_Md_packet_84 rfl fl_Md_66 at_m rfl ?_
        refine zx_iload (q := 89) dd_Md_packet_87 rfl rfl ?_
        refine zx_zald (q := 90) dd_Md_packet_89 rfl at_m18 rfl (by omega) (by decide) ?_
        refine zx_if_eq 115 (q := 93) dd_Md_packet_90 rfl (by decide) (fun hc4 => ?_) (fun hc4 => ?_)
        · skip
          refine zx_aload_n (q := 116) dd_Md_packet_115 rfl rfl ?_
          refine zx_get (q := 119) dd_Md_packet_116 rfl fl_Md_66 at_m rfl ?_
          refine zx_iload (q := 121) dd_Md_packet_119 rfl rfl ?_
          refine zx_zald (q := 122) dd_Md_packet_121 rfl at_m18 rfl (by omega) (by decide) ?_
          refine zx_if_ne 157 (q := 125) dd_Md_packet_122 rfl (by decide) (fun hc5 => ?_) (fun hc5 => ?_)
          · skip
            exact zx_vret dd_Md_packet_157 rfl (hq _ (by first | (simp [pm_packet, pm_pktS, hc1, he9, hc2, nI_clamp (show u < 2 ^ 31 by omega), nI_pos (show u < 2 ^ 31 by omega), hc3, eq_true hc4, hc5]; done) | (clear hq; simp_all [pm_packet, pm_pktS]; done)) hw)
          · skip
            refine zx_iload (q := 127) dd_Md_packet_125 rfl rfl ?_
            refine zx_aload_n (q := 128) dd_Md_packet_127 rfl rfl ?_
            refine zx_get (q := 131) dd_Md_packet_128 rfl fl_Md_81 at_m rfl ?_
            refine zx_iload (q := 133) dd_Md_packet_131 rfl rfl ?_
            refine zx_iald (q := 134) dd_Md_packet_133 rfl at_m23 rfl (by omega) (by decide) ?_
            refine zx_icmp_ne 157 (q := 137) dd_Md_packet_134 rfl (by decide) (fun hc6 => ?_) (fun hc6 => ?_)
            · skip
              exact zx_vret dd_Md_packet_157 rfl (hq _ (by first | (simp [pm_packet, pm_pktS, hc1, he9, hc2, nI_clamp (show u < 2 ^ 31 by omega), nI_pos (show u < 2 ^ 31 by omega), hc3, eq_true hc4, eq_true hc5, hc6]; done) | (clear hq; simp_all [pm_packet, pm_pktS]; done)) hw)
            · skip
              refine zx_iload (q := 139) dd_Md_packet_137 rfl rfl ?_
              refine zx_aload_n (q := 140) dd_Md_packet_139 rfl rfl ?_
              refine zx_get (q := 143) dd_Md_packet_140 rfl fl_Md_78 at_m rfl ?_
              refine zx_iload (q := 145) dd_Md_packet_143 rfl rfl ?_
              refine zx_iald (q := 146) dd_Md_packet_145 rfl at_m22 rfl (by omega) (by decide) ?_
              refine zx_icmp_le 157 (q := 149) dd_Md_packet_146 rfl (by decide) (fun hc7 => ?_) (fun hc7 => ?_)
              · skip
                exact zx_vret dd_Md_packet_157 rfl (hq _ (by first | (simp [pm_packet, pm_pktS, hc1, he9, hc2, nI_clamp (show u < 2 ^ 31 by omega), nI_pos (show u < 2 ^ 31 by omega), hc3, eq_true hc4, eq_true hc5, eq_true hc6, hc7]; done) | (clear hq; simp_all [pm_packet, pm_pktS]; done)) hw)
              · skip
                refine zx_aload_n (q := 150) dd_Md_packet_149 rfl rfl ?_
                refine zx_iload_n (q := 151) dd_Md_packet_150 rfl rfl ?_
                refine zx_iload (q := 153) dd_Md_packet_151 rfl rfl ?_
                refine zx_iconst (nI 5) (q := 154) dd_Md_packet_153 rfl (by decide) ?_
                refine zx_cV3v (q := 157) dd_Md_packet_154 rfl cv_Md_packet_207 ⟨rfl, rfl⟩ at_m rfl rfl (Nat.le_of_ble_eq_true rfl) ⟨Nat.zero_le _, Nat.zero_le _⟩ (ok_Md_askAgain hf (by omega) hw fun D10 he10 hw10 => ⟨rfl, ?_⟩)
                obtain ⟨t10, fr10, lo10, I10, J10⟩ := D10
                exact zx_vret dd_Md_packet_157 rfl (hq _ (by first | (simp [pm_packet, pm_pktS, hc1, he9, hc2, nI_clamp (show u < 2 ^ 31 by omega), nI_pos (show u < 2 ^ 31 by omega), hc3, eq_true hc4, eq_true hc5, eq_true hc6, hc7, he10]; done) | (clear hq; simp_all [pm_packet, pm_pktS]; done)) hw10)
        · skip
          refine zx_iload (q := 95) dd_Md_packet_93 rfl rfl ?_
          refine zx_aload_n (q := 96) dd_Md_packet_95 rfl rfl ?_
          refine zx_get (q := 99) dd_Md_packet_96 rfl fl_Md_78 at_m rfl ?_
          refine zx_iload (q := 101) dd_Md_packet_99 rfl rfl ?_
          refine zx_iald (q := 102) dd_Md_packet_101 rfl at_m22 rfl (by omega) (by decide) ?_
          refine zx_icmp_le 115 (q := 105) dd_Md_packet_102 rfl (by decide) (fun hc8 => ?_) (fun hc8 => ?_)
          · skip
            refine zx_aload_n (q := 116) dd_Md_packet_115 rfl rfl ?_
            refine zx_get (q := 119) dd_Md_packet_116 rfl fl_Md_66 at_m rfl ?_
            refine zx_iload (q := 121) dd_Md_packet_119 rfl rfl ?_
            refine zx_zald (q := 122) dd_Md_packet_121 rfl at_m18 rfl (by omega) (by decide) ?_
            refine zx_if_ne 157 (q := 125) dd_Md_packet_122 rfl (by decide) (fun hc9 => ?_) (fun hc9 => ?_)
            · skip
              exact zx_vret dd_Md_packet_157 rfl (hq _ (by first | (simp [pm_packet, pm_pktS, hc1, he9, hc2, nI_clamp (show u < 2 ^ 31 by omega), nI_pos (show u < 2 ^ 31 by omega), hc3, hc4, hc8, hc9]; done) | (clear hq; simp_all [pm_packet, pm_pktS]; done)) hw)
            · skip
              refine zx_iload (q := 127) dd_Md_packet_125 rfl rfl ?_
              refine zx_aload_n (q := 128) dd_Md_packet_127 rfl rfl ?_
              refine zx_get (q := 131) dd_Md_packet_128 rfl fl_Md_81 at_m rfl ?_
              refine zx_iload (q := 133) dd_Md_packet_131 rfl rfl ?_
              refine zx_iald (q := 134) dd_Md_packet_133 rfl at_m23 rfl (by omega) (by decide) ?_
              refine zx_icmp_ne 157 (q := 137) dd_Md_packet_134 rfl (by decide) (fun hc10 => ?_) (fun hc10 => ?_)
              · skip
                exact zx_vret dd_Md_packet_157 rfl (hq _ (by first | (simp [pm_packet, pm_pktS, hc1, he9, hc2, nI_clamp (show u < 2 ^ 31 by omega), nI_pos (show u < 2 ^ 31 by omega), hc3, hc4, hc8, eq_true hc9, hc10]; done) | (clear hq; simp_all [pm_packet, pm_pktS]; done)) hw)
              · skip
                refine zx_iload (q := 139) dd_Md_packet_137 rfl rfl ?_
                refine zx_aload_n (q := 140) dd_Md_packet_139 rfl rfl ?_
                refine zx_get (q := 143) dd_Md_packet_140 rfl fl_Md_78 at_m rfl ?_
                refine zx_iload (q := 145) dd_Md_packet_143 rfl rfl ?_
                refine zx_iald (q := 146) dd_Md_packet_145 rfl at_m22 rfl (by omega) (by decide) ?_
                refine zx_icmp_le 157 (q := 149) dd_Md_packet_146 rfl (by decide) (fun hc11 => ?_) (fun hc11 => ?_)
                · skip
                  exact zx_vret dd_Md_packet_157 rfl (hq _ (by first | (simp [pm_packet, pm_pktS, hc1, he9, hc2, nI_clamp (show u < 2 ^ 31 by omega), nI_pos (show u < 2 ^ 31 by omega), hc3, hc4, hc8, eq_true hc9, eq_true hc10, hc11]; done) | (clear hq; simp_all [pm_packet, pm_pktS]; done)) hw)
                · skip
                  refine zx_aload_n (q := 150) dd_Md_packet_149 rfl rfl ?_
                  refine zx_iload_n (q := 151) dd_Md_packet_150 rfl rfl ?_
                  refine zx_iload (q := 153) dd_Md_packet_151 rfl rfl ?_
                  refine zx_iconst (nI 5) (q := 154) dd_Md_packet_153 rfl (by decide) ?_
                  refine zx_cV3v (q := 157) dd_Md_packet_154 rfl cv_Md_packet_207 ⟨rfl, rfl⟩ at_m rfl rfl (Nat.le_of_ble_eq_true rfl) ⟨Nat.zero_le _, Nat.zero_le _⟩ (ok_Md_askAgain hf (by omega) hw fun D11 he11 hw11 => ⟨rfl, ?_⟩)
                  obtain ⟨t11, fr11, lo11, I11, J11⟩ := D11
                  exact zx_vret dd_Md_packet_157 rfl (hq _ (by first | (simp [pm_packet, pm_pktS, hc1, he9, hc2, nI_clamp (show u < 2 ^ 31 by omega), nI_pos (show u < 2 ^ 31 by omega), hc3, hc4, hc8, eq_true hc9, eq_true hc10, hc11, he11]; done) | (clear hq; simp_all [pm_packet, pm_pktS]; done)) hw11)
          · skip
            refine zx_aload_n (q := 106) dd_Md_packet_105 rfl rfl ?_
            refine zx_iload_n (q := 107) dd_Md_packet_106 rfl rfl ?_
            refine zx_iload (q := 109) dd_Md_packet_107 rfl rfl ?_
            refine zx_cV2v (q := 112) dd_Md_packet_109 rfl cv_Md_packet_191 ⟨rfl, rfl⟩ at_m rfl rfl (Nat.le_of_ble_eq_true rfl) ⟨Nat.zero_le _, Nat.zero_le _⟩ (ok_Md_close hf (by omega) hw fun D12 he12 hw12 => ⟨rfl, ?_⟩)
            obtain ⟨t12, fr12, lo12, I12, J12⟩ := D12
            refine zx_goto 157 dd_Md_packet_112 (by decide) ?_
            exact zx_vret dd_Md_packet_157 rfl (hq _ (by first | (simp [pm_packet, pm_pktS, hc1, he9, hc2, nI_clamp (show u < 2 ^ 31 by omega), nI_pos (show u < 2 ^ 31 by omega), hc3, hc4, hc8, he12]; done) | (clear hq; simp_all [pm_packet, pm_pktS]; done)) hw12)
      · skip
        refine zx_aload_n (q := 48) dd_Md_packet_47 rfl rfl ?_
        refine zx_get (q := 51) dd_Md_packet_48 rfl fl_Md_66 at_m rfl ?_
        refine zx_iload (q := 53) dd_Md_packet_51 rfl rfl ?_
        refine zx_zald (q := 54) dd_Md_packet_53 rfl at_m18 rfl (by omega) (by decide) ?_
        refine zx_if_ne 69 (q := 57) dd_Md_packet_54 rfl (by decide) (fun hc12 => ?_) (fun hc12 => ?_)
        · skip
          refine zx_aload_n (q := 70) dd_Md_packet_69 rfl rfl ?_
          refine zx_iload_n (q := 71) dd_Md_packet_70 rfl rfl ?_
          refine zx_iload (q := 73) dd_Md_packet_71 rfl rfl ?_
          refine zx_iload (q := 75) dd_Md_packet_73 rfl rfl ?_
          have hke : pm_fbk d = nI e := hc3.trans hee
          have hcl : (pm_fbk d).toNatClampNeg = e := by rw [hke]; exact nI_clamp (by omega)
          refine zx_topi hke ?_
          refine zx_lload (q := 77) dd_Md_packet_75 rfl rfl ?_
          refine zx_cV4v (q := 80) dd_Md_packet_77 rfl cv_Md_packet_204 ⟨rfl, rfl⟩ at_m rfl rfl (Nat.le_of_ble_eq_true rfl) ⟨Nat.zero_le _, Nat.zero_le _⟩ (ok_Md_keep hf (by omega) he1 he7 hw fun D13 he13_ hw13 => ⟨rfl, ?_⟩)
          obtain ⟨t13, fr13, lo13, I13, J13⟩ := D13
          refine zx_goto 157 dd_Md_packet_80 (by decide) ?_
          exact zx_vret dd_Md_packet_157 rfl (hq _ (by first | (simp [pm_packet, pm_pktS, hc1, he9, hc2, nI_clamp (show u < 2 ^ 31 by omega), nI_pos (show u < 2 ^ 31 by omega), eq_true hc3, hc12, he13_, hcl]; done) | (clear hq; simp_all [pm_packet, pm_pktS]; done)) hw13)
        · skip
          refine zx_iload (q := 59) dd_Md_packet_57 rfl rfl ?_
          refine zx_aload_n (q := 60) dd_Md_packet_59 rfl rfl ?_
          refine zx_get (q := 63) dd_Md_packet_60 rfl fl_Md_81 at_m rfl ?_
          refine zx_iload (q := 65) dd_Md_packet_63 rfl rfl ?_
          refine zx_iald (q := 66) dd_Md_packet_65 rfl at_m23 rfl (by omega) (by decide) ?_
          refine zx_icmp_gt 83 (q := 69) dd_Md_packet_66 rfl (by decide) (fun hc13 => ?_) (fun hc13 => ?_)
          · skip
            refine zx_aload_n (q := 84) dd_Md_packet_83 rfl rfl ?_
            refine zx_get (q := 87) dd_Md_packet_84 rfl fl_Md_66 at_m rfl ?_
            refine zx_iload (q := 89) dd_Md_packet_87 rfl rfl ?_
            refine zx_zald (q := 90) dd_Md_packet_89 rfl at_m18 rfl (by omega) (by decide) ?_
            refine zx_if_eq 115 (q := 93) dd_Md_packet_90 rfl (by decide) (fun hc14 => ?_) (fun hc14 => ?_)
            · skip
              refine zx_aload_n (q := 116) dd_Md_packet_115 rfl rfl ?_
              refine zx_get (q := 119) dd_Md_packet_116 rfl fl_Md_66 at_m rfl ?_
              refine zx_iload (q := 121) dd_Md_packet_119 rfl rfl ?_
              refine zx_zald (q := 122) dd_Md_packet_121 rfl at_m18 rfl (by omega) (by decide) ?_
              refine zx_if_ne 157 (q := 125) dd_Md_packet_122 rfl (by decide) (fun hc15 => ?_) (fun hc15 => ?_)
              · skip
                exact zx_vret dd_Md_packet_157 rfl (hq _ (by first | (simp [pm_packet, pm_pktS, hc1, he9, hc2, nI_clamp (show u < 2 ^ 31 by omega), nI_pos (show u < 2 ^ 31 by omega), eq_true hc3, eq_true hc12, hc13, eq_true hc14, hc15]; done) | (clear hq; simp_all [pm_packet, pm_pktS]; done)) hw)
              · skip
                refine zx_iload (q := 127) dd_Md_packet_125 rfl rfl ?_
                refine zx_aload_n (q := 128) dd_Md_packet_127 rfl rfl ?_
                refine zx_get (q := 131) dd_Md_packet_128 rfl fl_Md_81 at_m rfl ?_
                refine zx_iload (q := 133) dd_Md_packet_131 rfl rfl ?_
                refine zx_iald (q := 134) dd_Md_packet_133 rfl at_m23 rfl (by omega) (by decide) ?_
                refine zx_icmp_ne 157 (q := 137) dd_Md_packet_134 rfl (by decide) (fun hc16 => ?_) (fun hc16 => ?_)
                · skip
                  exact zx_vret dd_Md_packet_157 rfl (hq _ (by first | (simp [pm_packet, pm_pktS, hc1, he9, hc2, nI_clamp (show u < 2 ^ 31 by omega), nI_pos (show u < 2 ^ 31 by omega), eq_true hc3, eq_true hc12, hc13, eq_true hc14, eq_true hc15, hc16]; done) | (clear hq; simp_all [pm_packet, pm_pktS]; done)) hw)
                · skip
                  refine zx_iload (q := 139) dd_Md_packet_137 rfl rfl ?_
                  refine zx_aload_n (q := 140) dd_Md_packet_139 rfl rfl ?_
                  refine zx_get (q := 143) dd_Md_packet_140 rfl fl_Md_78 at_m rfl ?_
                  refine zx_iload (q := 145) dd_Md_packet_143 rfl rfl ?_
                  refine zx_iald (q := 146) dd_Md_packet_145 rfl at_m22 rfl (by omega) (by decide) ?_
                  refine zx_icmp_le 157 (q := 149) dd_Md_packet_146 rfl (by decide) (fun hc17 => ?_) (fun hc17 => ?_)
                  · skip
                    exact zx_vret dd_Md_packet_157 rfl (hq _ (by first | (simp [pm_packet, pm_pktS, hc1, he9, hc2, nI_clamp (show u < 2 ^ 31 by omega), nI_pos (show u < 2 ^ 31 by omega), eq_true hc3, eq_true hc12, hc13, eq_true hc14, eq_true hc15, eq_true hc16, hc17]; done) | (clear hq; simp_all [pm_packet, pm_pktS]; done)) hw)
                  · skip
                    refine zx_aload_n (q := 150) dd_Md_packet_149 rfl rfl ?_
                    refine zx_iload_n (q := 151) dd_Md_packet_150 rfl rfl ?_
                    refine zx_iload (q := 153) dd_Md_packet_151 rfl rfl ?_
                    refine zx_iconst (nI 5) (q := 154) dd_Md_packet_153 rfl (by decide) ?_
                    refine zx_cV3v (q := 157) dd_Md_packet_154 rfl cv_Md_packet_207 ⟨rfl, rfl⟩ at_m rfl rfl (Nat.le_of_ble_eq_true rfl) ⟨Nat.zero_le _, Nat.zero_le _⟩ (ok_Md_askAgain hf (by omega) hw fun D14 he14 hw14 => ⟨rfl, ?_⟩)
                    obtain ⟨t14, fr14, lo14, I14, J14⟩ := D14
                    exact zx_vret dd_Md_packet_157 rfl (hq _ (by first | (simp [pm_packet, pm_pktS, hc1, he9, hc2, nI_clamp (show u < 2 ^ 31 by omega), nI_pos (show u < 2 ^ 31 by omega), eq_true hc3, eq_true hc12, hc13, eq_true hc14, eq_true hc15, eq_true hc16, hc17, he14]; done) | (clear hq; simp_all [pm_packet, pm_pktS]; done)) hw14)
            · skip
              refine zx_iload (q := 95) dd_Md_packet_93 rfl rfl ?_
              refine zx_aload_n (q := 96) dd_Md_packet_95 rfl rfl ?_
              refine zx_get (q := 99) dd_Md_packet_96 rfl fl_Md_78 at_m rfl ?_
              refine zx_iload (q := 101) dd_Md_packet_99 rfl rfl ?_
              refine zx_iald (q := 102) dd_Md_packet_101 rfl at_m22 rfl (by omega) (by decide) ?_
              refine zx_icmp_le 115 (q := 105) dd_Md_packet_102 rfl (by decide) (fun hc18 => ?_) (fun hc18 => ?_)
              · skip
                refine zx_aload_n (q := 116) dd_Md_packet_115 rfl rfl ?_
                refine zx_get (q := 119) dd_Md_packet_116 rfl fl_Md_66 at_m rfl ?_
                refine zx_iload (q := 121) dd_Md_packet_119 rfl rfl ?_
                refine zx_zald (q := 122) dd_Md_packet_121 rfl at_m18 rfl (by omega) (by decide) ?_
                refine zx_if_ne 157 (q := 125) dd_Md_packet_122 rfl (by decide) (fun hc19 => ?_) (fun hc19 => ?_)
                · skip
                  exact zx_vret dd_Md_packet_157 rfl (hq _ (by first | (simp [pm_packet, pm_pktS, hc1, he9, hc2, nI_clamp (show u < 2 ^ 31 by omega), nI_pos (show u < 2 ^ 31 by omega), eq_true hc3, eq_true hc12, hc13, hc14, hc18, hc19]; done) | (clear hq; simp_all [pm_packet, pm_pktS]; done)) hw)
                · skip
                  refine zx_iload (q := 127) dd_Md_packet_125 rfl rfl ?_
                  refine zx_aload_n (q := 128) dd_Md_packet_127 rfl rfl ?_
                  refine zx_get (q := 131) dd_Md_packet_128 rfl fl_Md_81 at_m rfl ?_
                  refine zx_iload (q := 133) dd_Md_packet_131 rfl rfl ?_
                  refine zx_iald (q := 134) dd_Md_packet_133 rfl at_m23 rfl (by omega) (by decide) ?_
                  refine zx_icmp_ne 157 (q := 137) dd_Md_packet_134 rfl (by decide) (fun hc20 => ?_) (fun hc20 => ?_)
                  · skip
                    exact zx_vret dd_Md_packet_157 rfl (hq _ (by first | (simp [pm_packet, pm_pktS, hc1, he9, hc2, nI_clamp (show u < 2 ^ 31 by omega), nI_pos (show u < 2 ^ 31 by omega), eq_true hc3, eq_true hc12, hc13, hc14, hc18, eq_true hc19, hc20]; done) | (clear hq; simp_all [pm_packet, pm_pktS]; done)) hw)
                  · skip
                    refine zx_iload (q := 139) dd_Md_packet_137 rfl rfl ?_
                    refine zx_aload_n (q := 140) dd_Md_packet_139 rfl rfl ?_
                    refine zx_get (q := 143) dd_Md_packet_140 rfl fl_Md_78 at_m rfl ?_
                    refine zx_iload (q := 145) dd_Md_packet_143 rfl rfl ?_
                    refine zx_iald (q := 146) dd_Md_packet_145 rfl at_m22 rfl (by omega) (by decide) ?_
                    refine zx_icmp_le 157 (q := 149) dd_Md_packet_146 rfl (by decide) (fun hc21 => ?_) (fun hc21 => ?_)
                    · skip
                      exact zx_vret dd_Md_packet_157 rfl (hq _ (by first | (simp [pm_packet, pm_pktS, hc1, he9, hc2, nI_clamp (show u < 2 ^ 31 by omega), nI_pos (show u < 2 ^ 31 by omega), eq_true hc3, eq_true hc12, hc13, hc14, hc18, eq_true hc19, eq_true hc20, hc21]; done) | (clear hq; simp_all [pm_packet, pm_pktS]; done)) hw)
                    · skip
                      refine zx_aload_n (q := 150) dd_Md_packet_149 rfl rfl ?_
                      refine zx_iload_n (q := 151) dd_Md_packet_150 rfl rfl ?_
                      refine zx_iload (q := 153) dd_Md_packet_151 rfl rfl ?_
                      refine zx_iconst (nI 5) (q := 154) dd_Md_packet_153 rfl (by decide) ?_
                      refine zx_cV3v (q := 157) dd_Md_packet_154 rfl cv_Md_packet_207 ⟨rfl, rfl⟩ at_m rfl rfl (Nat.le_of_ble_eq_true rfl) ⟨Nat.zero_le _, Nat.zero_le _⟩ (ok_Md_askAgain hf (by omega) hw fun D15 he15 hw15 => ⟨rfl, ?_⟩)
                      obtain ⟨t15, fr15, lo15, I15, J15⟩ := D15
                      exact zx_vret dd_Md_packet_157 rfl (hq _ (by first | (simp [pm_packet, pm_pktS, hc1, he9, hc2, nI_clamp (show u < 2 ^ 31 by omega), nI_pos (show u < 2 ^ 31 by omega), eq_true hc3, eq_true hc12, hc13, hc14, hc18, eq_true hc19, eq_true hc20, hc21, he15]; done) | (clear hq; simp_all [pm_packet, pm_pktS]; done)) hw15)
              · skip
                refine zx_aload_n (q := 106) dd_Md_packet_105 rfl rfl ?_
                refine zx_iload_n (q := 107) dd_Md_packet_106 rfl rfl ?_
                refine zx_iload (q := 109) dd_Md_packet_107 rfl rfl ?_
                refine zx_cV2v (q := 112) dd_Md_packet_109 rfl cv_Md_packet_191 ⟨rfl, rfl⟩ at_m rfl rfl (Nat.le_of_ble_eq_true rfl) ⟨Nat.zero_le _, Nat.zero_le _⟩ (ok_Md_close hf (by omega) hw fun D16 he16 hw16 => ⟨rfl, ?_⟩)
                obtain ⟨t16, fr16, lo16, I16, J16⟩ := D16
                refine zx_goto 157 dd_Md_packet_112 (by decide) ?_
                exact zx_vret dd_Md_packet_157 rfl (hq _ (by first | (simp [pm_packet, pm_pktS, hc1, he9, hc2, nI_clamp (show u < 2 ^ 31 by omega), nI_pos (show u < 2 ^ 31 by omega), eq_true hc3, eq_true hc12, hc13, hc14, hc18, he16]; done) | (clear hq; simp_all [pm_packet, pm_pktS]; done)) hw16)
          · skip
            refine zx_aload_n (q := 70) dd_Md_packet_69 rfl rfl ?_
            refine zx_iload_n (q := 71) dd_Md_packet_70 rfl rfl ?_
            refine zx_iload (q := 73) dd_Md_packet_71 rfl rfl ?_
            refine zx_iload (q := 75) dd_Md_packet_73 rfl rfl ?_
            have hke : pm_fbk d = nI e := hc3.trans hee
            have hcl : (pm_fbk d).toNatClampNeg = e := by rw [hke]; exact nI_clamp (by omega)
            refine zx_topi hke ?_
            refine zx_lload (q := 77) dd_Md_packet_75 rfl rfl ?_
            refine zx_cV4v (q := 80) dd_Md_packet_77 rfl cv_Md_packet_204 ⟨rfl, rfl⟩ at_m rfl rfl (Nat.le_of_ble_eq_true rfl) ⟨Nat.zero_le _, Nat.zero_le _⟩ (ok_Md_keep hf (by omega) he1 he7 hw fun D17 he17_ hw17 => ⟨rfl, ?_⟩)
            obtain ⟨t17, fr17, lo17, I17, J17⟩ := D17
            refine zx_goto 157 dd_Md_packet_80 (by decide) ?_
            exact zx_vret dd_Md_packet_157 rfl (hq _ (by first | (simp [pm_packet, pm_pktS, hc1, he9, hc2, nI_clamp (show u < 2 ^ 31 by omega), nI_pos (show u < 2 ^ 31 by omega), eq_true hc3, eq_true hc12, hc13, he17_, hcl]; done) | (clear hq; simp_all [pm_packet, pm_pktS]; done)) hw17)
    · skip
      replace hc2 : r9 < 0 := Int32.not_le.mp hc2
      exact zx_vret dd_Md_packet_34 rfl (hq _ (by first | (simp [pm_packet, pm_pktS, hc1, he9, hc2]; done) | (clear hq; simp_all [pm_packet, pm_pktS]; done)) hw)
  · skip
    refine zx_iconst (nI 1) (q := 20) dd_Md_packet_19 rfl (by decide) ?_
    refine zx_goto 24 dd_Md_packet_20 (by decide) ?_
    refine zx_cV3i (q := 27) dd_Md_packet_24 rfl cv_Md_packet_175 ⟨rfl, rfl⟩ at_m rfl rfl (Nat.le_of_ble_eq_true rfl) ⟨Nat.zero_le _, Nat.zero_le _⟩ (ok_Md_find hf hc hins fun r18 he18 => ⟨_, rfl, ?_⟩)
    refine zx_istore_7 (q := 29) dd_Md_packet_27 rfl (by decide) rfl ?_
    refine zx_iload (q := 31) dd_Md_packet_29 rfl rfl ?_
    refine zx_if_ge 35 (q := 34) dd_Md_packet_31 rfl (by decide) (fun hc22 => ?_) (fun hc22 => ?_)
    · skip
      obtain ⟨u, hu1, hu2, hu3⟩ := pm_findK_n (I := I) c (2 * f) (fun z => Int32.lt_irrefl (Int32.lt_of_lt_of_le (he18 ▸ z) hc22))
      have hru : r18 = nI u := he18.symm.trans hu3
      subst hru
      obtain ⟨e, he1, he7, hee⟩ := hexp u hu1 hu2
      refine zx_iload (q := 37) dd_Md_packet_35 rfl rfl ?_
      refine zx_aload_n (q := 38) dd_Md_packet_37 rfl rfl ?_
      refine zx_get (q := 41) dd_Md_packet_38 rfl fl_Md_78 at_m rfl ?_
      refine zx_iload (q := 43) dd_Md_packet_41 rfl rfl ?_
      refine zx_iald (q := 44) dd_Md_packet_43 rfl at_m22 rfl (by omega) (by decide) ?_
      refine zx_icmp_ne 83 (q := 47) dd_Md_packet_44 rfl (by decide) (fun hc23 => ?_) (fun hc23 => ?_)
      · skip
        refine zx_aload_n (q := 84) dd_Md_packet_83 rfl rfl ?_
        refine zx_get (q := 87) dd_Md_packet_84 rfl fl_Md_66 at_m rfl ?_
        refine zx_iload (q := 89) dd_Md_packet_87 rfl rfl ?_
        refine zx_zald (q := 90) dd_Md_packet_89 rfl at_m18 rfl (by omega) (by decide) ?_
        refine zx_if_eq 115 (q := 93) dd_Md_packet_90 rfl (by decide) (fun hc24 => ?_) (fun hc24 => ?_)
        · skip
          refine zx_aload_n (q := 116) dd_Md_packet_115 rfl rfl ?_
          refine zx_get (q := 119) dd_Md_packet_116 rfl fl_Md_66 at_m rfl ?_
          refine zx_iload (q := 121) dd_Md_packet_119 rfl rfl ?_
          refine zx_zald (q := 122) dd_Md_packet_121 rfl at_m18 rfl (by omega) (by decide) ?_
          refine zx_if_ne 157 (q := 125) dd_Md_packet_122 rfl (by decide) (fun hc25 => ?_) (fun hc25 => ?_)
          · skip
            exact zx_vret dd_Md_packet_157 rfl (hq _ (by first | (simp [pm_packet, pm_pktS, eq_true hc1, he18, hc22, nI_clamp (show u < 2 ^ 31 by omega), nI_pos (show u < 2 ^ 31 by omega), hc23, eq_true hc24, hc25]; done) | (clear hq; simp_all [pm_packet, pm_pktS]; done)) hw)
          · skip
            refine zx_iload (q := 127) dd_Md_packet_125 rfl rfl ?_
            refine zx_aload_n (q := 128) dd_Md_packet_127 rfl rfl ?_
            refine zx_get (q := 131) dd_Md_packet_128 rfl fl_Md_81 at_m rfl ?_
            refine zx_iload (q := 133) dd_Md_packet_131 rfl rfl ?_
            refine zx_iald (q := 134) dd_Md_packet_133 rfl at_m23 rfl (by omega) (by decide) ?_
            refine zx_icmp_ne 157 (q := 137) dd_Md_packet_134 rfl (by decide) (fun hc26 => ?_) (fun hc26 => ?_)
            · skip
              exact zx_vret dd_Md_packet_157 rfl (hq _ (by first | (simp [pm_packet, pm_pktS, eq_true hc1, he18, hc22, nI_clamp (show u < 2 ^ 31 by omega), nI_pos (show u < 2 ^ 31 by omega), hc23, eq_true hc24, eq_true hc25, hc26]; done) | (clear hq; simp_all [pm_packet, pm_pktS]; done)) hw)
            · skip
              refine zx_iload (q := 139) dd_Md_packet_137 rfl rfl ?_
              refine zx_aload_n (q := 140) dd_Md_packet_139 rfl rfl ?_
              refine zx_get (q := 143) dd_Md_packet_140 rfl fl_Md_78 at_m rfl ?_
              refine zx_iload (q := 145) dd_Md_packet_143 rfl rfl ?_
              refine zx_iald (q := 146) dd_Md_packet_145 rfl at_m22 rfl (by omega) (by decide) ?_
              refine zx_icmp_le 157 (q := 149) dd_Md_packet_146 rfl (by decide) (fun hc27 => ?_) (fun hc27 => ?_)
              · skip
                exact zx_vret dd_Md_packet_157 rfl (hq _ (by first | (simp [pm_packet, pm_pktS, eq_true hc1, he18, hc22, nI_clamp (show u < 2 ^ 31 by omega), nI_pos (show u < 2 ^ 31 by omega), hc23, eq_true hc24, eq_true hc25, eq_true hc26, hc27]; done) | (clear hq; simp_all [pm_packet, pm_pktS]; done)) hw)
              · skip
                refine zx_aload_n (q := 150) dd_Md_packet_149 rfl rfl ?_
                refine zx_iload_n (q := 151) dd_Md_packet_150 rfl rfl ?_
                refine zx_iload (q := 153) dd_Md_packet_151 rfl rfl ?_
                refine zx_iconst (nI 5) (q := 154) dd_Md_packet_153 rfl (by decide) ?_
                refine zx_cV3v (q := 157) dd_Md_packet_154 rfl cv_Md_packet_207 ⟨rfl, rfl⟩ at_m rfl rfl (Nat.le_of_ble_eq_true rfl) ⟨Nat.zero_le _, Nat.zero_le _⟩ (ok_Md_askAgain hf (by omega) hw fun D19 he19 hw19 => ⟨rfl, ?_⟩)
                obtain ⟨t19, fr19, lo19, I19, J19⟩ := D19
                exact zx_vret dd_Md_packet_157 rfl (hq _ (by first | (simp [pm_packet, pm_pktS, eq_true hc1, he18, hc22, nI_clamp (show u < 2 ^ 31 by omega), nI_pos (show u < 2 ^ 31 by omega), hc23, eq_true hc24, eq_true hc25, eq_true hc26, hc27, he19]; done) | (clear hq; simp_all [pm_packet, pm_pktS]; done)) hw19)
        · skip
          refine zx_iload (q := 95) dd_Md_packet_93 rfl rfl ?_
          refine zx_aload_n (q := 96) dd_Md_packet_95 rfl rfl ?_
          refine zx_get (q := 99) dd_Md_packet_96 rfl fl_Md_78 at_m rfl ?_
          refine zx_iload (q := 101) dd_Md_packet_99 rfl rfl ?_
          refine zx_iald (q := 102) dd_Md_packet_101 rfl at_m22 rfl (by omega) (by decide) ?_
          refine zx_icmp_le 115 (q := 105) dd_Md_packet_102 rfl (by decide) (fun hc28 => ?_) (fun hc28 => ?_)
          · skip
            refine zx_aload_n (q := 116) dd_Md_packet_115 rfl rfl ?_
            refine zx_get (q := 119) dd_Md_packet_116 rfl fl_Md_66 at_m rfl ?_
            refine zx_iload (q := 121) dd_Md_packet_119 rfl rfl ?_
            refine zx_zald (q := 122) dd_Md_packet_121 rfl at_m18 rfl (by omega) (by decide) ?_
            refine zx_if_ne 157 (q := 125) dd_Md_packet_122 rfl (by decide) (fun hc29 => ?_) (fun hc29 => ?_)
            · skip
              exact zx_vret dd_Md_packet_157 rfl (hq _ (by first | (simp [pm_packet, pm_pktS, eq_true hc1, he18, hc22, nI_clamp (show u < 2 ^ 31 by omega), nI_pos (show u < 2 ^ 31 by omega), hc23, hc24, hc28, hc29]; done) | (clear hq; simp_all [pm_packet, pm_pktS]; done)) hw)
            · skip
              refine zx_iload (q := 127) dd_Md_packet_125 rfl rfl ?_
              refine zx_aload_n (q := 128) dd_Md_packet_127 rfl rfl ?_
              refine zx_get (q := 131) dd_Md_packet_128 rfl fl_Md_81 at_m rfl ?_
              refine zx_iload (q := 133) dd_Md_packet_131 rfl rfl ?_
              refine zx_iald (q := 134) dd_Md_packet_133 rfl at_m23 rfl (by omega) (by decide) ?_
              refine zx_icmp_ne 157 (q := 137) dd_Md_packet_134 rfl (by decide) (fun hc30 => ?_) (fun hc30 => ?_)
              · skip
                exact zx_vret dd_Md_packet_157 rfl (hq _ (by first | (simp [pm_packet, pm_pktS, eq_true hc1, he18, hc22, nI_clamp (show u < 2 ^ 31 by omega), nI_pos (show u < 2 ^ 31 by omega), hc23, hc24, hc28, eq_true hc29, hc30]; done) | (clear hq; simp_all [pm_packet, pm_pktS]; done)) hw)
              · skip
                refine zx_iload (q := 139) dd_Md_packet_137 rfl rfl ?_
                refine zx_aload_n (q := 140) dd_Md_packet_139 rfl rfl ?_
                refine zx_get (q := 143) dd_Md_packet_140 rfl fl_Md_78 at_m rfl ?_
                refine zx_iload (q := 145) dd_Md_packet_143 rfl rfl ?_
                refine zx_iald (q := 146) dd_Md_packet_145 rfl at_m22 rfl (by omega) (by decide) ?_
                refine zx_icmp_le 157 (q := 149) dd_Md_packet_146 rfl (by decide) (fun hc31 => ?_) (fun hc31 => ?_)
                · skip
                  exact zx_vret dd_Md_packet_157 rfl (hq _ (by first | (simp [pm_packet, pm_pktS, eq_true hc1, he18, hc22, nI_clamp (show u < 2 ^ 31 by omega), nI_pos (show u < 2 ^ 31 by omega), hc23, hc24, hc28, eq_true hc29, eq_true hc30, hc31]; done) | (clear hq; simp_all [pm_packet, pm_pktS]; done)) hw)
                · skip
                  refine zx_aload_n (q := 150) dd_Md_packet_149 rfl rfl ?_
                  refine zx_iload_n (q := 151) dd_Md_packet_150 rfl rfl ?_
                  refine zx_iload (q := 153) dd_Md_packet_151 rfl rfl ?_
                  refine zx_iconst (nI 5) (q := 154) dd_Md_packet_153 rfl (by decide) ?_
                  refine zx_cV3v (q := 157) dd_Md_packet_154 rfl cv_Md_packet_207 ⟨rfl, rfl⟩ at_m rfl rfl (Nat.le_of_ble_eq_true rfl) ⟨Nat.zero_le _, Nat.zero_le _⟩ (ok_Md_askAgain hf (by omega) hw fun D20 he20 hw20 => ⟨rfl, ?_⟩)
                  obtain ⟨t20, fr20, lo20, I20, J20⟩ := D20
                  exact zx_vret dd_Md_packet_157 rfl (hq _ (by first | (simp [pm_packet, pm_pktS, eq_true hc1, he18, hc22, nI_clamp (show u < 2 ^ 31 by omega), nI_pos (show u < 2 ^ 31 by omega), hc23, hc24, hc28, eq_true hc29, eq_true hc30, hc31, he20]; done) | (clear hq; simp_all [pm_packet, pm_pktS]; done)) hw20)
          · skip
            refine zx_aload_n (q := 106) dd_Md_packet_105 rfl rfl ?_
            refine zx_iload_n (q := 107) dd_Md_packet_106 rfl rfl ?_
            refine zx_iload (q := 109) dd_Md_packet_107 rfl rfl ?_
            refine zx_cV2v (q := 112) dd_Md_packet_109 rfl cv_Md_packet_191 ⟨rfl, rfl⟩ at_m rfl rfl (Nat.le_of_ble_eq_true rfl) ⟨Nat.zero_le _, Nat.zero_le _⟩ (ok_Md_close hf (by omega) hw fun D21 he21 hw21 => ⟨rfl, ?_⟩)
            obtain ⟨t21, fr21, lo21, I21, J21⟩ := D21
            refine zx_goto 157 dd_Md_packet_112 (by decide) ?_
            exact zx_vret dd_Md_packet_157 rfl (hq _ (by first | (simp [pm_packet, pm_pktS, eq_true hc1, he18, hc22, nI_clamp (show u < 2 ^ 31 by omega), nI_pos (show u < 2 ^ 31 by omega), hc23, hc24, hc28, he21]; done) | (clear hq; simp_all [pm_packet, pm_pktS]; done)) hw21)
      · skip
        refine zx_aload_n (q := 48) dd_Md_packet_47 rfl rfl ?_
        refine zx_get (q := 51) dd_Md_packet_48 rfl fl_Md_66 at_m rfl ?_
        refine zx_iload (q := 53) dd_Md_packet_51 rfl rfl ?_
        refine zx_zald (q := 54) dd_Md_packet_53 rfl at_m18 rfl (by omega) (by decide) ?_
        refine zx_if_ne 69 (q := 57) dd_Md_packet_54 rfl (by decide) (fun hc32 => ?_) (fun hc32 => ?_)
        · skip
          refine zx_aload_n (q := 70) dd_Md_packet_69 rfl rfl ?_
          refine zx_iload_n (q := 71) dd_Md_packet_70 rfl rfl ?_
          refine zx_iload (q := 73) dd_Md_packet_71 rfl rfl ?_
          refine zx_iload (q := 75) dd_Md_packet_73 rfl rfl ?_
          have hke : pm_fbk d = nI e := hc23.trans hee
          have hcl : (pm_fbk d).toNatClampNeg = e := by rw [hke]; exact nI_clamp (by omega)
          refine zx_topi hke ?_
          refine zx_lload (q := 77) dd_Md_packet_75 rfl rfl ?_
          refine zx_cV4v (q := 80) dd_Md_packet_77 rfl cv_Md_packet_204 ⟨rfl, rfl⟩ at_m rfl rfl (Nat.le_of_ble_eq_true rfl) ⟨Nat.zero_le _, Nat.zero_le _⟩ (ok_Md_keep hf (by omega) he1 he7 hw fun D22 he22_ hw22 => ⟨rfl, ?_⟩)
          obtain ⟨t22, fr22, lo22, I22, J22⟩ := D22
          refine zx_goto 157 dd_Md_packet_80 (by decide) ?_
          exact zx_vret dd_Md_packet_157 rfl (hq _ (by first | (simp [pm_packet, pm_pktS, eq_true hc1, he18, hc22, nI_clamp (show u < 2 ^ 31 by omega), nI_pos (show u < 2 ^ 31 by omega), eq_true hc23, hc32, he22_, hcl]; done) | (clear hq; simp_all [pm_packet, pm_pktS]; done)) hw22)
        · skip
          refine zx_iload (q := 59) dd_Md_packet_57 rfl rfl ?_
          refine zx_aload_n (q := 60) dd_Md_packet_59 rfl rfl ?_
          refine zx_get (q := 63) dd_Md_packet_60 rfl fl_Md_81 at_m rfl ?_
          refine zx_iload (q := 65) dd_Md_packet_63 rfl rfl ?_
          refine zx_iald (q := 66) dd_Md_packet_65 rfl at_m23 rfl (by omega) (by decide) ?_
          refine zx_icmp_gt 83 (q := 69) dd_Md_packet_66 rfl (by decide) (fun hc33 => ?_) (fun hc33 => ?_)
          · skip
            refine zx_aload_n (q := 84) dd_Md_packet_83 rfl rfl ?_
            refine zx_get (q := 87) dd_Md_packet_84 rfl fl_Md_66 at_m rfl ?_
            refine zx_iload (q := 89) dd_Md_packet_87 rfl rfl ?_
            refine zx_zald (q := 90) dd_Md_packet_89 rfl at_m18 rfl (by omega) (by decide) ?_
            refine zx_if_eq 115 (q := 93) dd_Md_packet_90 rfl (by decide) (fun hc34 => ?_) (fun hc34 => ?_)
            · skip
              refine zx_aload_n (q := 116) dd_Md_packet_115 rfl rfl ?_
              refine zx_get (q := 119) dd_Md_packet_116 rfl fl_Md_66 at_m rfl ?_
              refine zx_iload (q := 121) dd_Md_packet_119 rfl rfl ?_
              refine zx_zald (q := 122) dd_Md_packet_121 rfl at_m18 rfl (by omega) (by decide) ?_
              refine zx_if_ne 157 (q := 125) dd_Md_packet_122 rfl (by decide) (fun hc35 => ?_) (fun hc35 => ?_)
              · skip
                exact zx_vret dd_Md_packet_157 rfl (hq _ (by first | (simp [pm_packet, pm_pktS, eq_true hc1, he18, hc22, nI_clamp (show u < 2 ^ 31 by omega), nI_pos (show u < 2 ^ 31 by omega), eq_true hc23, eq_true hc32, hc33, eq_true hc34, hc35]; done) | (clear hq; simp_all [pm_packet, pm_pktS]; done)) hw)
              · skip
                refine zx_iload (q := 127) dd_Md_packet_125 rfl rfl ?_
                refine zx_aload_n (q := 128) dd_Md_packet_127 rfl rfl ?_
                refine zx_get (q := 131) dd_Md_packet_128 rfl fl_Md_81 at_m rfl ?_
                refine zx_iload (q := 133) dd_Md_packet_131 rfl rfl ?_
                refine zx_iald (q := 134) dd_Md_packet_133 rfl at_m23 rfl (by omega) (by decide) ?_
                refine zx_icmp_ne 157 (q := 137) dd_Md_packet_134 rfl (by decide) (fun hc36 => ?_) (fun hc36 => ?_)
                · skip
                  exact zx_vret dd_Md_packet_157 rfl (hq _ (by first | (simp [pm_packet, pm_pktS, eq_true hc1, he18, hc22, nI_clamp (show u < 2 ^ 31 by omega), nI_pos (show u < 2 ^ 31 by omega), eq_true hc23, eq_true hc32, hc33, eq_true hc34, eq_true hc35, hc36]; done) | (clear hq; simp_all [pm_packet, pm_pktS]; done)) hw)
                · skip
                  refine zx_iload (q := 139) dd_Md_packet_137 rfl rfl ?_
                  refine zx_aload_n (q := 140) dd_Md_packet_139 rfl rfl ?_
                  refine zx_get (q := 143) dd_Md_packet_140 rfl fl_Md_78 at_m rfl ?_
                  refine zx_iload (q := 145) dd_Md_packet_143 rfl rfl ?_
                  refine zx_iald (q := 146) dd_Md_packet_145 rfl at_m22 rfl (by omega) (by decide) ?_
                  refine zx_icmp_le 157 (q := 149) dd_Md_packet_146 rfl (by decide) (fun hc37 => ?_) (fun hc37 => ?_)
                  · skip
                    exact zx_vret dd_Md_packet_157 rfl (hq _ (by first | (simp [pm_packet, pm_pktS, eq_true hc1, he18, hc22, nI_clamp (show u < 2 ^ 31 by omega), nI_pos (show u < 2 ^ 31 by omega), eq_true hc23, eq_true hc32, hc33, eq_true hc34, eq_true hc35, eq_true hc36, hc37]; done) | (clear hq; simp_all [pm_packet, pm_pktS]; done)) hw)
                  · skip
                    refine zx_aload_n (q := 150) dd_Md_packet_149 rfl rfl ?_
                    refine zx_iload_n (q := 151) dd_Md_packet_150 rfl rfl ?_
                    refine zx_iload (q := 153) dd_Md_packet_151 rfl rfl ?_
                    refine zx_iconst (nI 5) (q := 154) dd_Md_packet_153 rfl (by decide) ?_
                    refine zx_cV3v (q := 157) dd_Md_packet_154 rfl cv_Md_packet_207 ⟨rfl, rfl⟩ at_m rfl rfl (Nat.le_of_ble_eq_true rfl) ⟨Nat.zero_le _, Nat.zero_le _⟩ (ok_Md_askAgain hf (by omega) hw fun D23 he23 hw23 => ⟨rfl, ?_⟩)
                    obtain ⟨t23, fr23, lo23, I23, J23⟩ := D23
                    exact zx_vret dd_Md_packet_157 rfl (hq _ (by first | (simp [pm_packet, pm_pktS, eq_true hc1, he18, hc22, nI_clamp (show u < 2 ^ 31 by omega), nI_pos (show u < 2 ^ 31 by omega), eq_true hc23, eq_true hc32, hc33, eq_true hc34, eq_true hc35, eq_true hc36, hc37, he23]; done) | (clear hq; simp_all [pm_packet, pm_pktS]; done)) hw23)
            · skip
              refine zx_iload (q := 95) dd_Md_packet_93 rfl rfl ?_
              refine zx_aload_n (q := 96) dd_Md_packet_95 rfl rfl ?_
              refine zx_get (q := 99) dd_Md_packet_96 rfl fl_Md_78 at_m rfl ?_
              refine zx_iload (q := 101) dd_Md_packet_99 rfl rfl ?_
              refine zx_iald (q := 102) dd_Md_packet_101 rfl at_m22 rfl (by omega) (by decide) ?_
              refine zx_icmp_le 115 (q := 105) dd_Md_packet_102 rfl (by decide) (fun hc38 => ?_) (fun hc38 => ?_)
              · skip
                refine zx_aload_n (q := 116) dd_Md_packet_115 rfl rfl ?_
                refine zx_get (q := 119) dd_Md_packet_116 rfl fl_Md_66 at_m rfl ?_
                refine zx_iload (q := 121) dd_Md_packet_119 rfl rfl ?_
                refine zx_zald (q := 122) dd_Md_packet_121 rfl at_m18 rfl (by omega) (by decide) ?_
                refine zx_if_ne 157 (q := 125) dd_Md_packet_122 rfl (by decide) (fun hc39 => ?_) (fun hc39 => ?_)
                · skip
                  exact zx_vret dd_Md_packet_157 rfl (hq _ (by first | (simp [pm_packet, pm_pktS, eq_true hc1, he18, hc22, nI_clamp (show u < 2 ^ 31 by omega), nI_pos (show u < 2 ^ 31 by omega), eq_true hc23, eq_true hc32, hc33, hc34, hc38, hc39]; done) | (clear hq; simp_all [pm_packet, pm_pktS]; done)) hw)
                · skip
                  refine zx_iload (q := 127) dd_Md_packet_125 rfl rfl ?_
                  refine zx_aload_n (q := 128) dd_Md_packet_127 rfl rfl ?_
                  refine zx_get (q := 131) dd_Md_packet_128 rfl fl_Md_81 at_m rfl ?_
                  refine zx_iload (q := 133) dd_Md_packet_131 rfl rfl ?_
                  refine zx_iald (q := 134) dd_Md_packet_133 rfl at_m23 rfl (by omega) (by decide) ?_
                  refine zx_icmp_ne 157 (q := 137) dd_Md_packet_134 rfl (by decide) (fun hc40 => ?_) (fun hc40 => ?_)
                  · skip
                    exact zx_vret dd_Md_packet_157 rfl (hq _ (by first | (simp [pm_packet, pm_pktS, eq_true hc1, he18, hc22, nI_clamp (show u < 2 ^ 31 by omega), nI_pos (show u < 2 ^ 31 by omega), eq_true hc23, eq_true hc32, hc33, hc34, hc38, eq_true hc39, hc40]; done) | (clear hq; simp_all [pm_packet, pm_pktS]; done)) hw)
                  · skip
                    refine zx_iload (q := 139) dd_Md_packet_137 rfl rfl ?_
                    refine zx_aload_n (q := 140) dd_Md_packet_139 rfl rfl ?_
                    refine zx_get (q := 143) dd_Md_packet_140 rfl fl_Md_78 at_m rfl ?_
                    refine zx_iload (q := 145) dd_Md_packet_143 rfl rfl ?_
                    refine zx_iald (q := 146) dd_Md_packet_145 rfl at_m22 rfl (by omega) (by decide) ?_
                    refine zx_icmp_le 157 (q := 149) dd_Md_packet_146 rfl (by decide) (fun hc41 => ?_) (fun hc41 => ?_)
                    · skip
                      exact zx_vret dd_Md_packet_157 rfl (hq _ (by first | (simp [pm_packet, pm_pktS, eq_true hc1, he18, hc22, nI_clamp (show u < 2 ^ 31 by omega), nI_pos (show u < 2 ^ 31 by omega), eq_true hc23, eq_true hc32, hc33, hc34, hc38, eq_true hc39, eq_true hc40, hc41]; done) | (clear hq; simp_all [pm_packet, pm_pktS]; done)) hw)
                    · skip
                      refine zx_aload_n (q := 150) dd_Md_packet_149 rfl rfl ?_
                      refine zx_iload_n (q := 151) dd_Md_packet_150 rfl rfl ?_
                      refine zx_iload (q := 153) dd_Md_packet_151 rfl rfl ?_
                      refine zx_iconst (nI 5) (q := 154) dd_Md_packet_153 rfl (by decide) ?_
                      refine zx_cV3v (q := 157) dd_Md_packet_154 rfl cv_Md_packet_207 ⟨rfl, rfl⟩ at_m rfl rfl (Nat.le_of_ble_eq_true rfl) ⟨Nat.zero_le _, Nat.zero_le _⟩ (ok_Md_askAgain hf (by omega) hw fun D24 he24 hw24 => ⟨rfl, ?_⟩)
                      obtain ⟨t24, fr24, lo24, I24, J24⟩ := D24
                      exact zx_vret dd_Md_packet_157 rfl (hq _ (by first | (simp [pm_packet, pm_pktS, eq_true hc1, he18, hc22, nI_clamp (show u < 2 ^ 31 by omega), nI_pos (show u < 2 ^ 31 by omega), eq_true hc23, eq_true hc32, hc33, hc34, hc38, eq_true hc39, eq_true hc40, hc41, he24]; done) | (clear hq; simp_all [pm_packet, pm_pktS]; done)) hw24)
              · skip
                refine zx_aload_n (q := 106) dd_Md_packet_105 rfl rfl ?_
                refine zx_iload_n (q := 107) dd_Md_packet_106 rfl rfl ?_
                refine zx_iload (q := 109) dd_Md_packet_107 rfl rfl ?_
                refine zx_cV2v (q := 112) dd_Md_packet_109 rfl cv_Md_packet_191 ⟨rfl, rfl⟩ at_m rfl rfl (Nat.le_of_ble_eq_true rfl) ⟨Nat.zero_le _, Nat.zero_le _⟩ (ok_Md_close hf (by omega) hw fun D25 he25 hw25 => ⟨rfl, ?_⟩)
                obtain ⟨t25, fr25, lo25, I25, J25⟩ := D25
                refine zx_goto 157 dd_Md_packet_112 (by decide) ?_
                exact zx_vret dd_Md_packet_157 rfl (hq _ (by first | (simp [pm_packet, pm_pktS, eq_true hc1, he18, hc22, nI_clamp (show u < 2 ^ 31 by omega), nI_pos (show u < 2 ^ 31 by omega), eq_true hc23, eq_true hc32, hc33, hc34, hc38, he25]; done) | (clear hq; simp_all [pm_packet, pm_pktS]; done)) hw25)
          · skip
            refine zx_aload_n (q := 70) dd_Md_packet_69 rfl rfl ?_
            refine zx_iload_n (q := 71) dd_Md_packet_70 rfl rfl ?_
            refine zx_iload (q := 73) dd_Md_packet_71 rfl rfl ?_
            refine zx_iload (q := 75) dd_Md_packet_73 rfl rfl ?_
            have hke : pm_fbk d = nI e := hc23.trans hee
            have hcl : (pm_fbk d).toNatClampNeg = e := by rw [hke]; exact nI_clamp (by omega)
            refine zx_topi hke ?_
            refine zx_lload (q := 77) dd_Md_packet_75 rfl rfl ?_
            refine zx_cV4v (q := 80) dd_Md_packet_77 rfl cv_Md_packet_204 ⟨rfl, rfl⟩ at_m rfl rfl (Nat.le_of_ble_eq_true rfl) ⟨Nat.zero_le _, Nat.zero_le _⟩ (ok_Md_keep hf (by omega) he1 he7 hw fun D26 he26_ hw26 => ⟨rfl, ?_⟩)
            obtain ⟨t26, fr26, lo26, I26, J26⟩ := D26
            refine zx_goto 157 dd_Md_packet_80 (by decide) ?_
            exact zx_vret dd_Md_packet_157 rfl (hq _ (by first | (simp [pm_packet, pm_pktS, eq_true hc1, he18, hc22, nI_clamp (show u < 2 ^ 31 by omega), nI_pos (show u < 2 ^ 31 by omega), eq_true hc23, eq_true hc32, hc33, he26_, hcl]; done) | (clear hq; simp_all [pm_packet, pm_pktS]; done)) hw26)
    · skip
      replace hc22 : r18 < 0 := Int32.not_le.mp hc22
      exact zx_vret dd_Md_packet_34 rfl (hq _ (by first | (simp [pm_packet, pm_pktS, eq_true hc1, he18, hc22]; done) | (clear hq; simp_all [pm_packet, pm_pktS]; done)) hw)
