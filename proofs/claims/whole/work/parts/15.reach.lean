set_option maxRecDepth 100000 in
set_option maxHeartbeats 4000000 in
theorem ok_Fu_takeControl {E : zxE} {b f n : Nat} {F : Nat → zFn} {D : zMd} {B : zB} {ad : Int32} {bz : Bool} {nt : Nat → Int32} {o : Nat} {la : zMs} {ou : zOu} {x0 x1 : zIn} {de st : Int32} {nm hd : Int64} {Q : Option Value → zxH → Nat → Prop} {s : Int32} {d : Int64} (hf : f < 5) (ho : o ≤ 1) (hw : B.2.2.2.1 ≤ 48) (hpk : ∃ s : Nat, s < 256 ∧ pc_pk ou.2.2.2.2.1 = nI s) (hq : ∀ B' ad' bz' nt' o' la' ou' x0' x1' de' st' nm' hd', pf_control B (nI f) (ad, bz, nt, o, la, ou, x0, x1, de, st, nm, hd) s d = (B', (ad', bz', nt', o', la', ou', x0', x1', de', st', nm', hd')) → B'.2.2.2.1 ≤ 48 → Q none (zs b (B', foc F f (ad', bz', nt', o', la', ou', tw o' x0' x1', de', st', nm', hd'), D)) n) : zx_Ok E my_Fu_takeControl mi_Fu_takeControl [.ref (fa b f 0), .int s, .long d] (zs b (B, foc F f (ad, bz, nt, o, la, ou, tw o x0 x1, de, st, nm, hd), D)) n Q := by
  obtain ⟨ids, con, snd, cnt, ovf, now⟩ := B
  obtain ⟨ph, re, tg, gp, sz, se, nx, du⟩ := ou
  obtain ⟨s9, hs9, es⟩ := hpk
  have es : pc_pk sz = nI s9 := es
  obtain ⟨c2, hz2, ec2⟩ := pc_fb_n d (nI 2)
  obtain ⟨a3, ha3, ea3⟩ := pc_fb_n d (nI 3)
  have cl2 : (nI c2).toNatClampNeg = c2 := nI_clamp (by omega)
  have cl3 : (nI a3).toNatClampNeg = a3 := nI_clamp (by omega)
  have cls : (nI s9).toNatClampNeg = s9 := nI_clamp (by omega)
  refine zx_start [some (.ref (fa b f 0)), some (.int s), some (.long d), none, none, none, none] (by decide) rfl rfl (Nat.le_of_ble_eq_true rfl) rfl ?_
  refine zx_lload_n (q := 1) dd_Fu_takeControl_0 rfl rfl ?_
  refine zx_iconst (nI 1) (q := 2) dd_Fu_takeControl_1 rfl (by decide) ?_
  refine zx_cN2i (q := 5) dd_Fu_takeControl_2 rfl cs_Fu_takeControl_153 ⟨rfl, rfl⟩ (Nat.le_of_ble_eq_true rfl) ⟨Nat.zero_le _, Nat.zero_le _⟩ (ok_Ab_frameByte ⟨_, rfl, ?_⟩)
  refine zx_istore_4 (q := 7) dd_Fu_takeControl_5 rfl (by decide) rfl ?_
  refine zx_lload_n (q := 8) dd_Fu_takeControl_7 rfl rfl ?_
  refine zx_bipush (nI 40) (q := 10) dd_Fu_takeControl_8 rfl (by decide) ?_
  refine zx_lushr (q := 11) dd_Fu_takeControl_10 rfl ?_
  refine zx_l2i (q := 12) dd_Fu_takeControl_11 rfl ?_
  refine zx_topi (x' := pf_group d) rfl ?_
  refine zx_istore_5 (q := 14) dd_Fu_takeControl_12 rfl (by decide) rfl ?_
  refine zx_aload_n (q := 15) dd_Fu_takeControl_14 rfl rfl ?_
  refine zx_get (q := 18) dd_Fu_takeControl_15 rfl fl_Fu_51 (at_f0 hf) rfl ?_
  refine zx_iload_n (q := 19) dd_Fu_takeControl_18 rfl rfl ?_
  refine zx_iload (q := 21) dd_Fu_takeControl_19 rfl rfl ?_
  refine zx_cV2i (q := 24) dd_Fu_takeControl_21 rfl cv_Fu_takeControl_157 ⟨rfl, rfl⟩ (at_f6 hf) rfl rfl (Nat.le_of_ble_eq_true rfl) ⟨Nat.zero_le _, Nat.zero_le _⟩ (ok_Ou_isWith hf fun r1 he1 => ⟨_, rfl, ?_⟩)
  refine zx_istore_6 (q := 26) dd_Fu_takeControl_24 rfl (by decide) rfl ?_
  refine zx_iload (q := 28) dd_Fu_takeControl_26 rfl rfl ?_
  refine zx_bipush (nI 16) (q := 30) dd_Fu_takeControl_28 rfl (by decide) ?_
  refine zx_icmp_eq 40 (q := 33) dd_Fu_takeControl_30 rfl (by decide) (fun hc1 => ?_) (fun hc1 => ?_)
  · skip
    refine zx_aload_n (q := 41) dd_Fu_takeControl_40 rfl rfl ?_
    refine zx_iload_n (q := 42) dd_Fu_takeControl_41 rfl rfl ?_
    refine zx_iload (q := 44) dd_Fu_takeControl_42 rfl rfl ?_
    refine zx_lload_n (q := 45) dd_Fu_takeControl_44 rfl rfl ?_
    refine zx_iload (q := 47) dd_Fu_takeControl_45 rfl rfl ?_
    refine zx_bipush (nI 32) (q := 49) dd_Fu_takeControl_47 rfl (by decide) ?_
    refine zx_icmp_ne 56 (q := 52) dd_Fu_takeControl_49 rfl (by decide) (fun hc2 => ?_) (fun hc2 => absurd hc2 (by rw [hc1]; decide))
    refine zx_iconst (nI 0) (q := 57) dd_Fu_takeControl_56 rfl (by decide) ?_
    refine zx_topi zb_f ?_
    refine zx_cV4v (q := 60) dd_Fu_takeControl_57 rfl cv_Fu_takeControl_161 ⟨rfl, rfl⟩ (at_f0 hf) rfl rfl (Nat.le_of_ble_eq_true rfl) ⟨Nat.zero_le _, Nat.zero_le _⟩ (ok_Fu_takeOpening hf ho hw fun B2 ad2 bz2 nt2 o2 la2 ou2 x0_2 x1_2 de2 st2 nm2 hd2 he2 hw2 => ⟨rfl, ?_⟩)
    obtain ⟨ids2, con2, snd2, cnt2, ovf2, now2⟩ := B2
    refine zx_goto 154 dd_Fu_takeControl_60 (by decide) ?_
    exact zx_vret dd_Fu_takeControl_154 rfl (hq _ _ _ _ _ _ _ _ _ _ _ _ _ (by first | (simp [pf_control, pf_setOu, ec2, ea3, es, cl2, cl3, cls, he1, eq_true hc1, he2]; done) | (clear hq; simp_all [pf_control, pf_setOu]; done)) hw2)
  · skip
    refine zx_iload (q := 35) dd_Fu_takeControl_33 rfl rfl ?_
    refine zx_bipush (nI 32) (q := 37) dd_Fu_takeControl_35 rfl (by decide) ?_
    refine zx_icmp_ne 63 (q := 40) dd_Fu_takeControl_37 rfl (by decide) (fun hc3 => ?_) (fun hc3 => ?_)
    · skip
      refine zx_iload (q := 65) dd_Fu_takeControl_63 rfl rfl ?_
      refine zx_bipush (nI 17) (q := 67) dd_Fu_takeControl_65 rfl (by decide) ?_
      refine zx_icmp_ne 95 (q := 70) dd_Fu_takeControl_67 rfl (by decide) (fun hc4 => ?_) (fun hc4 => ?_)
      · skip
        refine zx_iload (q := 97) dd_Fu_takeControl_95 rfl rfl ?_
        refine zx_bipush (nI 19) (q := 99) dd_Fu_takeControl_97 rfl (by decide) ?_
        refine zx_icmp_ne 119 (q := 102) dd_Fu_takeControl_99 rfl (by decide) (fun hc5 => ?_) (fun hc5 => ?_)
        · skip
          refine zx_iload (q := 121) dd_Fu_takeControl_119 rfl rfl ?_
          refine zx_sipush (nI 255) (q := 124) dd_Fu_takeControl_121 rfl (by decide) ?_
          refine zx_icmp_ne 154 (q := 127) dd_Fu_takeControl_124 rfl (by decide) (fun hc6 => ?_) (fun hc6 => ?_)
          · skip
            exact zx_vret dd_Fu_takeControl_154 rfl (hq _ _ _ _ _ _ _ _ _ _ _ _ _ (by first | (simp [pf_control, pf_setOu, ec2, ea3, es, cl2, cl3, cls, he1, hc1, hc3, hc4, hc5, hc6]; done) | (clear hq; simp_all [pf_control, pf_setOu]; done)) hw)
          · skip
            refine zx_iload (q := 129) dd_Fu_takeControl_127 rfl rfl ?_
            refine zx_if_eq 147 (q := 132) dd_Fu_takeControl_129 rfl (by decide) (fun hc7 => ?_) (fun hc7 => ?_)
            · skip
              replace hc7 := zb_0.mp hc7
              refine zx_aload_n (q := 148) dd_Fu_takeControl_147 rfl rfl ?_
              refine zx_iload_n (q := 149) dd_Fu_takeControl_148 rfl rfl ?_
              refine zx_iload (q := 151) dd_Fu_takeControl_149 rfl rfl ?_
              refine zx_cV2v (q := 154) dd_Fu_takeControl_151 rfl cv_Fu_takeControl_169 ⟨rfl, rfl⟩ (at_f0 hf) rfl rfl (Nat.le_of_ble_eq_true rfl) ⟨Nat.zero_le _, Nat.zero_le _⟩ (ok_Fu_abortIncoming hf ho fun ad3 bz3 nt3 o3 la3 ou3 x0_3 x1_3 de3 st3 nm3 hd3 he3 => ⟨rfl, ?_⟩)
              exact zx_vret dd_Fu_takeControl_154 rfl (hq _ _ _ _ _ _ _ _ _ _ _ _ _ (by first | (simp [pf_control, pf_setOu, ec2, ea3, es, cl2, cl3, cls, he1, hc1, hc3, hc4, hc5, eq_true hc6, hc7, he3]; done) | (clear hq; simp_all [pf_control, pf_setOu]; done)) hw)
            · skip
              replace hc7 := zb_n0.mp hc7
              refine zx_aload_n (q := 133) dd_Fu_takeControl_132 rfl rfl ?_
              refine zx_get (q := 136) dd_Fu_takeControl_133 rfl fl_Fu_51 (at_f0 hf) rfl ?_
              refine zx_bipush (nI 20) (q := 138) dd_Fu_takeControl_136 rfl (by decide) ?_
              refine zx_lload_n (q := 139) dd_Fu_takeControl_138 rfl rfl ?_
              refine zx_iconst (nI 2) (q := 140) dd_Fu_takeControl_139 rfl (by decide) ?_
              refine zx_cN2i (q := 143) dd_Fu_takeControl_140 rfl cs_Fu_takeControl_153 ⟨rfl, rfl⟩ (Nat.le_of_ble_eq_true rfl) ⟨Nat.zero_le _, Nat.zero_le _⟩ (ok_Ab_frameByte ⟨_, rfl, ?_⟩)
              refine zx_iadd (q := 144) dd_Fu_takeControl_143 rfl ?_
              refine zx_cV1v (q := 147) dd_Fu_takeControl_144 rfl cv_Fu_takeControl_148 ⟨rfl, rfl⟩ (at_f6 hf) rfl rfl (Nat.le_of_ble_eq_true rfl) ⟨Nat.zero_le _, Nat.zero_le _⟩ (ok_Ou_end hf ⟨rfl, ?_⟩)
              refine zx_aload_n (q := 148) dd_Fu_takeControl_147 rfl rfl ?_
              refine zx_iload_n (q := 149) dd_Fu_takeControl_148 rfl rfl ?_
              refine zx_iload (q := 151) dd_Fu_takeControl_149 rfl rfl ?_
              refine zx_cV2v (q := 154) dd_Fu_takeControl_151 rfl cv_Fu_takeControl_169 ⟨rfl, rfl⟩ (at_f0 hf) rfl rfl (Nat.le_of_ble_eq_true rfl) ⟨Nat.zero_le _, Nat.zero_le _⟩ (ok_Fu_abortIncoming hf ho fun ad4 bz4 nt4 o4 la4 ou4 x0_4 x1_4 de4 st4 nm4 hd4 he4 => ⟨rfl, ?_⟩)
              exact zx_vret dd_Fu_takeControl_154 rfl (hq _ _ _ _ _ _ _ _ _ _ _ _ _ (by first | (simp [pf_control, pf_setOu, ec2, ea3, es, cl2, cl3, cls, he1, hc1, hc3, hc4, hc5, eq_true hc6, hc7, he4]; done) | (clear hq; simp_all [pf_control, pf_setOu]; done)) hw)
        · skip
          refine zx_iload (q := 104) dd_Fu_takeControl_102 rfl rfl ?_
          refine zx_if_eq 119 (q := 107) dd_Fu_takeControl_104 rfl (by decide) (fun hc8 => ?_) (fun hc8 => ?_)
          · skip
            replace hc8 := zb_0.mp hc8
            refine zx_iload (q := 121) dd_Fu_takeControl_119 rfl rfl ?_
            refine zx_sipush (nI 255) (q := 124) dd_Fu_takeControl_121 rfl (by decide) ?_
            refine zx_icmp_ne 154 (q := 127) dd_Fu_takeControl_124 rfl (by decide) (fun hc9 => ?_) (fun hc9 => ?_)
            · skip
              exact zx_vret dd_Fu_takeControl_154 rfl (hq _ _ _ _ _ _ _ _ _ _ _ _ _ (by first | (simp [pf_control, pf_setOu, ec2, ea3, es, cl2, cl3, cls, he1, hc1, hc3, hc4, eq_true hc5, hc8, hc9]; done) | (clear hq; simp_all [pf_control, pf_setOu]; done)) hw)
            · skip
              refine zx_iload (q := 129) dd_Fu_takeControl_127 rfl rfl ?_
              refine zx_if_eq 147 (q := 132) dd_Fu_takeControl_129 rfl (by decide) (fun hc10 => ?_) (fun hc10 => ?_)
              · skip
                replace hc10 := zb_0.mp hc10
                refine zx_aload_n (q := 148) dd_Fu_takeControl_147 rfl rfl ?_
                refine zx_iload_n (q := 149) dd_Fu_takeControl_148 rfl rfl ?_
                refine zx_iload (q := 151) dd_Fu_takeControl_149 rfl rfl ?_
                refine zx_cV2v (q := 154) dd_Fu_takeControl_151 rfl cv_Fu_takeControl_169 ⟨rfl, rfl⟩ (at_f0 hf) rfl rfl (Nat.le_of_ble_eq_true rfl) ⟨Nat.zero_le _, Nat.zero_le _⟩ (ok_Fu_abortIncoming hf ho fun ad5 bz5 nt5 o5 la5 ou5 x0_5 x1_5 de5 st5 nm5 hd5 he5 => ⟨rfl, ?_⟩)
                exact zx_vret dd_Fu_takeControl_154 rfl (hq _ _ _ _ _ _ _ _ _ _ _ _ _ (by first | (simp [pf_control, pf_setOu, ec2, ea3, es, cl2, cl3, cls, he1, hc1, hc3, hc4, eq_true hc5, hc8, eq_true hc9, hc10, he5]; done) | (clear hq; simp_all [pf_control, pf_setOu]; done)) hw)
              · skip
                replace hc10 := zb_n0.mp hc10
                refine zx_aload_n (q := 133) dd_Fu_takeControl_132 rfl rfl ?_
                refine zx_get (q := 136) dd_Fu_takeControl_133 rfl fl_Fu_51 (at_f0 hf) rfl ?_
                refine zx_bipush (nI 20) (q := 138) dd_Fu_takeControl_136 rfl (by decide) ?_
                refine zx_lload_n (q := 139) dd_Fu_takeControl_138 rfl rfl ?_
                refine zx_iconst (nI 2) (q := 140) dd_Fu_takeControl_139 rfl (by decide) ?_
                refine zx_cN2i (q := 143) dd_Fu_takeControl_140 rfl cs_Fu_takeControl_153 ⟨rfl, rfl⟩ (Nat.le_of_ble_eq_true rfl) ⟨Nat.zero_le _, Nat.zero_le _⟩ (ok_Ab_frameByte ⟨_, rfl, ?_⟩)
                refine zx_iadd (q := 144) dd_Fu_takeControl_143 rfl ?_
                refine zx_cV1v (q := 147) dd_Fu_takeControl_144 rfl cv_Fu_takeControl_148 ⟨rfl, rfl⟩ (at_f6 hf) rfl rfl (Nat.le_of_ble_eq_true rfl) ⟨Nat.zero_le _, Nat.zero_le _⟩ (ok_Ou_end hf ⟨rfl, ?_⟩)
                refine zx_aload_n (q := 148) dd_Fu_takeControl_147 rfl rfl ?_
                refine zx_iload_n (q := 149) dd_Fu_takeControl_148 rfl rfl ?_
                refine zx_iload (q := 151) dd_Fu_takeControl_149 rfl rfl ?_
                refine zx_cV2v (q := 154) dd_Fu_takeControl_151 rfl cv_Fu_takeControl_169 ⟨rfl, rfl⟩ (at_f0 hf) rfl rfl (Nat.le_of_ble_eq_true rfl) ⟨Nat.zero_le _, Nat.zero_le _⟩ (ok_Fu_abortIncoming hf ho fun ad6 bz6 nt6 o6 la6 ou6 x0_6 x1_6 de6 st6 nm6 hd6 he6 => ⟨rfl, ?_⟩)
                exact zx_vret dd_Fu_takeControl_154 rfl (hq _ _ _ _ _ _ _ _ _ _ _ _ _ (by first | (simp [pf_control, pf_setOu, ec2, ea3, es, cl2, cl3, cls, he1, hc1, hc3, hc4, eq_true hc5, hc8, eq_true hc9, hc10, he6]; done) | (clear hq; simp_all [pf_control, pf_setOu]; done)) hw)
          · skip
            replace hc8 := zb_n0.mp hc8
            refine zx_aload_n (q := 108) dd_Fu_takeControl_107 rfl rfl ?_
            refine zx_get (q := 111) dd_Fu_takeControl_108 rfl fl_Fu_51 (at_f0 hf) rfl ?_
            refine zx_bipush (nI 10) (q := 113) dd_Fu_takeControl_111 rfl (by decide) ?_
            refine zx_cV1v (q := 116) dd_Fu_takeControl_113 rfl cv_Fu_takeControl_148 ⟨rfl, rfl⟩ (at_f6 hf) rfl rfl (Nat.le_of_ble_eq_true rfl) ⟨Nat.zero_le _, Nat.zero_le _⟩ (ok_Ou_end hf ⟨rfl, ?_⟩)
            refine zx_goto 154 dd_Fu_takeControl_116 (by decide) ?_
            exact zx_vret dd_Fu_takeControl_154 rfl (hq _ _ _ _ _ _ _ _ _ _ _ _ _ (by first | (simp [pf_control, pf_setOu, ec2, ea3, es, cl2, cl3, cls, he1, hc1, hc3, hc4, eq_true hc5, hc8]; done) | (clear hq; simp_all [pf_control, pf_setOu]; done)) hw)
      · skip
        refine zx_iload (q := 72) dd_Fu_takeControl_70 rfl rfl ?_
        refine zx_if_eq 95 (q := 75) dd_Fu_takeControl_72 rfl (by decide) (fun hc11 => ?_) (fun hc11 => ?_)
        · skip
          replace hc11 := zb_0.mp hc11
          refine zx_iload (q := 97) dd_Fu_takeControl_95 rfl rfl ?_
          refine zx_bipush (nI 19) (q := 99) dd_Fu_takeControl_97 rfl (by decide) ?_
          refine zx_icmp_ne 119 (q := 102) dd_Fu_takeControl_99 rfl (by decide) (fun hc12 => ?_) (fun hc12 => ?_)
          · skip
            refine zx_iload (q := 121) dd_Fu_takeControl_119 rfl rfl ?_
            refine zx_sipush (nI 255) (q := 124) dd_Fu_takeControl_121 rfl (by decide) ?_
            refine zx_icmp_ne 154 (q := 127) dd_Fu_takeControl_124 rfl (by decide) (fun hc13 => ?_) (fun hc13 => ?_)
            · skip
              exact zx_vret dd_Fu_takeControl_154 rfl (hq _ _ _ _ _ _ _ _ _ _ _ _ _ (by first | (simp [pf_control, pf_setOu, ec2, ea3, es, cl2, cl3, cls, he1, hc1, hc3, eq_true hc4, hc11, hc12, hc13]; done) | (clear hq; simp_all [pf_control, pf_setOu]; done)) hw)
            · skip
              refine zx_iload (q := 129) dd_Fu_takeControl_127 rfl rfl ?_
              refine zx_if_eq 147 (q := 132) dd_Fu_takeControl_129 rfl (by decide) (fun hc14 => ?_) (fun hc14 => ?_)
              · skip
                replace hc14 := zb_0.mp hc14
                refine zx_aload_n (q := 148) dd_Fu_takeControl_147 rfl rfl ?_
                refine zx_iload_n (q := 149) dd_Fu_takeControl_148 rfl rfl ?_
                refine zx_iload (q := 151) dd_Fu_takeControl_149 rfl rfl ?_
                refine zx_cV2v (q := 154) dd_Fu_takeControl_151 rfl cv_Fu_takeControl_169 ⟨rfl, rfl⟩ (at_f0 hf) rfl rfl (Nat.le_of_ble_eq_true rfl) ⟨Nat.zero_le _, Nat.zero_le _⟩ (ok_Fu_abortIncoming hf ho fun ad7 bz7 nt7 o7 la7 ou7 x0_7 x1_7 de7 st7 nm7 hd7 he7 => ⟨rfl, ?_⟩)
                exact zx_vret dd_Fu_takeControl_154 rfl (hq _ _ _ _ _ _ _ _ _ _ _ _ _ (by first | (simp [pf_control, pf_setOu, ec2, ea3, es, cl2, cl3, cls, he1, hc1, hc3, eq_true hc4, hc11, hc12, eq_true hc13, hc14, he7]; done) | (clear hq; simp_all [pf_control, pf_setOu]; done)) hw)
              · skip
                replace hc14 := zb_n0.mp hc14
                refine zx_aload_n (q := 133) dd_Fu_takeControl_132 rfl rfl ?_
                refine zx_get (q := 136) dd_Fu_takeControl_133 rfl fl_Fu_51 (at_f0 hf) rfl ?_
                refine zx_bipush (nI 20) (q := 138) dd_Fu_takeControl_136 rfl (by decide) ?_
                refine zx_lload_n (q := 139) dd_Fu_takeControl_138 rfl rfl ?_
                refine zx_iconst (nI 2) (q := 140) dd_Fu_takeControl_139 rfl (by decide) ?_
                refine zx_cN2i (q := 143) dd_Fu_takeControl_140 rfl cs_Fu_takeControl_153 ⟨rfl, rfl⟩ (Nat.le_of_ble_eq_true rfl) ⟨Nat.zero_le _, Nat.zero_le _⟩ (ok_Ab_frameByte ⟨_, rfl, ?_⟩)
                refine zx_iadd (q := 144) dd_Fu_takeControl_143 rfl ?_
                refine zx_cV1v (q := 147) dd_Fu_takeControl_144 rfl cv_Fu_takeControl_148 ⟨rfl, rfl⟩ (at_f6 hf) rfl rfl (Nat.le_of_ble_eq_true rfl) ⟨Nat.zero_le _, Nat.zero_le _⟩ (ok_Ou_end hf ⟨rfl, ?_⟩)
                refine zx_aload_n (q := 148) dd_Fu_takeControl_147 rfl rfl ?_
                refine zx_iload_n (q := 149) dd_Fu_takeControl_148 rfl rfl ?_
                refine zx_iload (q := 151) dd_Fu_takeControl_149 rfl rfl ?_
                refine zx_cV2v (q := 154) dd_Fu_takeControl_151 rfl cv_Fu_takeControl_169 ⟨rfl, rfl⟩ (at_f0 hf) rfl rfl (Nat.le_of_ble_eq_true rfl) ⟨Nat.zero_le _, Nat.zero_le _⟩ (ok_Fu_abortIncoming hf ho fun ad8 bz8 nt8 o8 la8 ou8 x0_8 x1_8 de8 st8 nm8 hd8 he8 => ⟨rfl, ?_⟩)
                exact zx_vret dd_Fu_takeControl_154 rfl (hq _ _ _ _ _ _ _ _ _ _ _ _ _ (by first | (simp [pf_control, pf_setOu, ec2, ea3, es, cl2, cl3, cls, he1, hc1, hc3, eq_true hc4, hc11, hc12, eq_true hc13, hc14, he8]; done) | (clear hq; simp_all [pf_control, pf_setOu]; done)) hw)
          · skip
            refine zx_iload (q := 104) dd_Fu_takeControl_102 rfl rfl ?_
            refine zx_if_eq 119 (q := 107) dd_Fu_takeControl_104 rfl (by decide) (fun hc15 => ?_) (fun hc15 => ?_)
            · skip
              replace hc15 := zb_0.mp hc15
              refine zx_iload (q := 121) dd_Fu_takeControl_119 rfl rfl ?_
              refine zx_sipush (nI 255) (q := 124) dd_Fu_takeControl_121 rfl (by decide) ?_
              refine zx_icmp_ne 154 (q := 127) dd_Fu_takeControl_124 rfl (by decide) (fun hc16 => ?_) (fun hc16 => ?_)
              · skip
                exact zx_vret dd_Fu_takeControl_154 rfl (hq _ _ _ _ _ _ _ _ _ _ _ _ _ (by first | (simp [pf_control, pf_setOu, ec2, ea3, es, cl2, cl3, cls, he1, hc1, hc3, eq_true hc4, hc11, eq_true hc12, hc15, hc16]; done) | (clear hq; simp_all [pf_control, pf_setOu]; done)) hw)
              · skip
                refine zx_iload (q := 129) dd_Fu_takeControl_127 rfl rfl ?_
                refine zx_if_eq 147 (q := 132) dd_Fu_takeControl_129 rfl (by decide) (fun hc17 => ?_) (fun hc17 => ?_)
                · skip
                  replace hc17 := zb_0.mp hc17
                  refine zx_aload_n (q := 148) dd_Fu_takeControl_147 rfl rfl ?_
                  refine zx_iload_n (q := 149) dd_Fu_takeControl_148 rfl rfl ?_
                  refine zx_iload (q := 151) dd_Fu_takeControl_149 rfl rfl ?_
                  refine zx_cV2v (q := 154) dd_Fu_takeControl_151 rfl cv_Fu_takeControl_169 ⟨rfl, rfl⟩ (at_f0 hf) rfl rfl (Nat.le_of_ble_eq_true rfl) ⟨Nat.zero_le _, Nat.zero_le _⟩ (ok_Fu_abortIncoming hf ho fun ad9 bz9 nt9 o9 la9 ou9 x0_9 x1_9 de9 st9 nm9 hd9 he9 => ⟨rfl, ?_⟩)
                  exact zx_vret dd_Fu_takeControl_154 rfl (hq _ _ _ _ _ _ _ _ _ _ _ _ _ (by first | (simp [pf_control, pf_setOu, ec2, ea3, es, cl2, cl3, cls, he1, hc1, hc3, eq_true hc4, hc11, eq_true hc12, hc15, eq_true hc16, hc17, he9]; done) | (clear hq; simp_all [pf_control, pf_setOu]; done)) hw)
                · skip
                  replace hc17 := zb_n0.mp hc17
                  refine zx_aload_n (q := 133) dd_Fu_takeControl_132 rfl rfl ?_
                  refine zx_get (q := 136) dd_Fu_takeControl_133 rfl fl_Fu_51 (at_f0 hf) rfl ?_
                  refine zx_bipush (nI 20) (q := 138) dd_Fu_takeControl_136 rfl (by decide) ?_
                  refine zx_lload_n (q := 139) dd_Fu_takeControl_138 rfl rfl ?_
                  refine zx_iconst (nI 2) (q := 140) dd_Fu_takeControl_139 rfl (by decide) ?_
                  refine zx_cN2i (q := 143) dd_Fu_takeControl_140 rfl cs_Fu_takeControl_153 ⟨rfl, rfl⟩ (Nat.le_of_ble_eq_true rfl) ⟨Nat.zero_le _, Nat.zero_le _⟩ (ok_Ab_frameByte ⟨_, rfl, ?_⟩)
                  refine zx_iadd (q := 144) dd_Fu_takeControl_143 rfl ?_
                  refine zx_cV1v (q := 147) dd_Fu_takeControl_144 rfl cv_Fu_takeControl_148 ⟨rfl, rfl⟩ (at_f6 hf) rfl rfl (Nat.le_of_ble_eq_true rfl) ⟨Nat.zero_le _, Nat.zero_le _⟩ (ok_Ou_end hf ⟨rfl, ?_⟩)
                  refine zx_aload_n (q := 148) dd_Fu_takeControl_147 rfl rfl ?_
                  refine zx_iload_n (q := 149) dd_Fu_takeControl_148 rfl rfl ?_
                  refine zx_iload (q := 151) dd_Fu_takeControl_149 rfl rfl ?_
                  refine zx_cV2v (q := 154) dd_Fu_takeControl_151 rfl cv_Fu_takeControl_169 ⟨rfl, rfl⟩ (at_f0 hf) rfl rfl (Nat.le_of_ble_eq_true rfl) ⟨Nat.zero_le _, Nat.zero_le _⟩ (ok_Fu_abortIncoming hf ho fun ad10 bz10 nt10 o10 la10 ou10 x0_10 x1_10 de10 st10 nm10 hd10 he10 => ⟨rfl, ?_⟩)
                  exact zx_vret dd_Fu_takeControl_154 rfl (hq _ _ _ _ _ _ _ _ _ _ _ _ _ (by first | (simp [pf_control, pf_setOu, ec2, ea3, es, cl2, cl3, cls, he1, hc1, hc3, eq_true hc4, hc11, eq_true hc12, hc15, eq_true hc16, hc17, he10]; done) | (clear hq; simp_all [pf_control, pf_setOu]; done)) hw)
            · skip
              replace hc15 := zb_n0.mp hc15
              refine zx_aload_n (q := 108) dd_Fu_takeControl_107 rfl rfl ?_
              refine zx_get (q := 111) dd_Fu_takeControl_108 rfl fl_Fu_51 (at_f0 hf) rfl ?_
              refine zx_bipush (nI 10) (q := 113) dd_Fu_takeControl_111 rfl (by decide) ?_
              refine zx_cV1v (q := 116) dd_Fu_takeControl_113 rfl cv_Fu_takeControl_148 ⟨rfl, rfl⟩ (at_f6 hf) rfl rfl (Nat.le_of_ble_eq_true rfl) ⟨Nat.zero_le _, Nat.zero_le _⟩ (ok_Ou_end hf ⟨rfl, ?_⟩)
              refine zx_goto 154 dd_Fu_takeControl_116 (by decide) ?_
              exact zx_vret dd_Fu_takeControl_154 rfl (hq _ _ _ _ _ _ _ _ _ _ _ _ _ (by first | (simp [pf_control, pf_setOu, ec2, ea3, es, cl2, cl3, cls, he1, hc1, hc3, eq_true hc4, hc11, eq_true hc12, hc15]; done) | (clear hq; simp_all [pf_control, pf_setOu]; done)) hw)
        · skip
          replace hc11 := zb_n0.mp hc11
          refine zx_aload_n (q := 76) dd_Fu_takeControl_75 rfl rfl ?_
          refine zx_get (q := 79) dd_Fu_takeControl_76 rfl fl_Fu_51 (at_f0 hf) rfl ?_
          refine zx_lload_n (q := 80) dd_Fu_takeControl_79 rfl rfl ?_
          refine zx_iconst (nI 2) (q := 81) dd_Fu_takeControl_80 rfl (by decide) ?_
          refine zx_cN2i (q := 84) dd_Fu_takeControl_81 rfl cs_Fu_takeControl_153 ⟨rfl, rfl⟩ (Nat.le_of_ble_eq_true rfl) ⟨Nat.zero_le _, Nat.zero_le _⟩ (ok_Ab_frameByte ⟨_, rfl, ?_⟩)
          refine zx_topi ec2 ?_
          refine zx_lload_n (q := 85) dd_Fu_takeControl_84 rfl rfl ?_
          refine zx_iconst (nI 3) (q := 86) dd_Fu_takeControl_85 rfl (by decide) ?_
          refine zx_cN2i (q := 89) dd_Fu_takeControl_86 rfl cs_Fu_takeControl_153 ⟨rfl, rfl⟩ (Nat.le_of_ble_eq_true rfl) ⟨Nat.zero_le _, Nat.zero_le _⟩ (ok_Ab_frameByte ⟨_, rfl, ?_⟩)
          refine zx_topi ea3 ?_
          refine zx_cV2v (q := 92) dd_Fu_takeControl_89 rfl cv_Fu_takeControl_165 ⟨rfl, rfl⟩ (at_f6 hf) rfl rfl (Nat.le_of_ble_eq_true rfl) ⟨Nat.zero_le _, Nat.zero_le _⟩ (ok_Ou_takeGrant hf hw hz2 ha3 hs9 es fun B11 x11 he11 hw11 => ⟨rfl, ?_⟩)
          obtain ⟨ids11, con11, snd11, cnt11, ovf11, now11⟩ := B11
          refine zx_goto 154 dd_Fu_takeControl_92 (by decide) ?_
          exact zx_vret dd_Fu_takeControl_154 rfl (hq _ _ _ _ _ _ _ _ _ _ _ _ _ (by first | (simp [pf_control, pf_setOu, ec2, ea3, es, cl2, cl3, cls, he1, hc1, hc3, eq_true hc4, hc11, he11]; done) | (clear hq; simp_all [pf_control, pf_setOu]; done)) hw11)
    · skip
      refine zx_aload_n (q := 41) dd_Fu_takeControl_40 rfl rfl ?_
      refine zx_iload_n (q := 42) dd_Fu_takeControl_41 rfl rfl ?_
      refine zx_iload (q := 44) dd_Fu_takeControl_42 rfl rfl ?_
      refine zx_lload_n (q := 45) dd_Fu_takeControl_44 rfl rfl ?_
      refine zx_iload (q := 47) dd_Fu_takeControl_45 rfl rfl ?_
      refine zx_bipush (nI 32) (q := 49) dd_Fu_takeControl_47 rfl (by decide) ?_
      refine zx_icmp_ne 56 (q := 52) dd_Fu_takeControl_49 rfl (by decide) (fun hc18 => absurd hc3 hc18) (fun hc18 => ?_)
      refine zx_iconst (nI 1) (q := 53) dd_Fu_takeControl_52 rfl (by decide) ?_
      refine zx_topi zb_1 ?_
      refine zx_goto 57 dd_Fu_takeControl_53 (by decide) ?_
      refine zx_cV4v (q := 60) dd_Fu_takeControl_57 rfl cv_Fu_takeControl_161 ⟨rfl, rfl⟩ (at_f0 hf) rfl rfl (Nat.le_of_ble_eq_true rfl) ⟨Nat.zero_le _, Nat.zero_le _⟩ (ok_Fu_takeOpening hf ho hw fun B12 ad12 bz12 nt12 o12 la12 ou12 x0_12 x1_12 de12 st12 nm12 hd12 he12 hw12 => ⟨rfl, ?_⟩)
      obtain ⟨ids12, con12, snd12, cnt12, ovf12, now12⟩ := B12
      refine zx_goto 154 dd_Fu_takeControl_60 (by decide) ?_
      exact zx_vret dd_Fu_takeControl_154 rfl (hq _ _ _ _ _ _ _ _ _ _ _ _ _ (by first | (simp [pf_control, pf_setOu, ec2, ea3, es, cl2, cl3, cls, he1, hc1, eq_true hc3, he12]; done) | (clear hq; simp_all [pf_control, pf_setOu]; done)) hw12)
set_option maxRecDepth 100000 in
set_option maxHeartbeats 4000000 in
theorem ok_Fu_reach {E : zxE} {b f n : Nat} {F : Nat → zFn} {D : zMd} {B : zB} {ad : Int32} {bz : Bool} {nt : Nat → Int32} {o : Nat} {la : zMs} {ou : zOu} {x0 x1 : zIn} {de st : Int32} {nm hd : Int64} {Q : Option Value → zxH → Nat → Prop} {s : Nat} {id : Int32} {d : Int64} (hf : f < 5) (ho : o ≤ 1) (hw : B.2.2.2.1 ≤ 48) (hpk : ∃ s : Nat, s < 256 ∧ pc_pk ou.2.2.2.2.1 = nI s) (hex0 : x0.2.2.2.1 < 100000) (hex1 : x1.2.2.2.1 < 100000) (hs : s < 5) (hq : ∀ B' ad' bz' nt' o' la' ou' x0' x1' de' st' nm' hd', pf_reach B (nI f) (ad, bz, nt, o, la, ou, x0, x1, de, st, nm, hd) s id d = (B', (ad', bz', nt', o', la', ou', x0', x1', de', st', nm', hd')) → B'.2.2.2.1 ≤ 48 → Q none (zs b (B', foc F f (ad', bz', nt', o', la', ou', tw o' x0' x1', de', st', nm', hd'), D)) n) : zx_Ok E my_Fu_reach mi_Fu_reach [.ref (fa b f 0), .int (nI s), .int id, .long d] (zs b (B, foc F f (ad, bz, nt, o, la, ou, tw o x0 x1, de, st, nm, hd), D)) n Q := by
  obtain ⟨ids, con, snd, cnt, ovf, now⟩ := B
  refine zx_start [some (.ref (fa b f 0)), some (.int (nI s)), some (.int id), some (.long d), none, none, none, none] (by decide) rfl rfl (Nat.le_of_ble_eq_true rfl) rfl ?_
  refine zx_iload_n (q := 1) dd_Fu_reach_0 rfl rfl ?_
  refine zx_sipush (nI 255) (q := 4) dd_Fu_reach_1 rfl (by decide) ?_
  refine zx_iand (q := 5) dd_Fu_reach_4 rfl ?_
  refine zx_istore_5 (q := 7) dd_Fu_reach_5 rfl (by decide) rfl ?_
  refine zx_iload_n (q := 8) dd_Fu_reach_7 rfl rfl ?_
  refine zx_bipush (nI 8) (q := 10) dd_Fu_reach_8 rfl (by decide) ?_
  refine zx_ishr (q := 11) dd_Fu_reach_10 rfl ?_
  refine zx_sipush (nI 255) (q := 14) dd_Fu_reach_11 rfl (by decide) ?_
  refine zx_iand (q := 15) dd_Fu_reach_14 rfl ?_
  refine zx_istore_6 (q := 17) dd_Fu_reach_15 rfl (by decide) rfl ?_
  refine zx_iload_n (q := 18) dd_Fu_reach_17 rfl rfl ?_
  refine zx_bipush (nI 16) (q := 20) dd_Fu_reach_18 rfl (by decide) ?_
  refine zx_ishr (q := 21) dd_Fu_reach_20 rfl ?_
  refine zx_sipush (nI 1023) (q := 24) dd_Fu_reach_21 rfl (by decide) ?_
  refine zx_iand (q := 25) dd_Fu_reach_24 rfl ?_
  refine zx_istore_7 (q := 27) dd_Fu_reach_25 rfl (by decide) rfl ?_
  refine zx_iload (q := 29) dd_Fu_reach_27 rfl rfl ?_
  refine zx_sipush (nI 238) (q := 32) dd_Fu_reach_29 rfl (by decide) ?_
  refine zx_icmp_eq 43 (q := 35) dd_Fu_reach_32 rfl (by decide) (fun hc1 => ?_) (fun hc1 => ?_)
  · skip
    refine zx_aload_n (q := 44) dd_Fu_reach_43 rfl rfl ?_
    refine zx_get (q := 47) dd_Fu_reach_44 rfl fl_Fu_28 (at_f0 hf) rfl ?_
    refine zx_if_ne 51 (q := 50) dd_Fu_reach_47 rfl (by decide) (fun hc2 => ?_) (fun hc2 => ?_)
    · skip
      refine zx_iload (q := 53) dd_Fu_reach_51 rfl rfl ?_
      refine zx_sipush (nI 238) (q := 56) dd_Fu_reach_53 rfl (by decide) ?_
      refine zx_icmp_ne 70 (q := 59) dd_Fu_reach_56 rfl (by decide) (fun hc3 => ?_) (fun hc3 => ?_)
      · skip
        refine zx_aload_n (q := 71) dd_Fu_reach_70 rfl rfl ?_
        refine zx_cV0v (q := 74) dd_Fu_reach_71 rfl cv_Fu_reach_96 ⟨rfl, rfl⟩ (at_f0 hf) rfl rfl (Nat.le_of_ble_eq_true rfl) ⟨Nat.zero_le _, Nat.zero_le _⟩ (ok_Fu_sendClaim hf hw fun B13 he13 hw13 => ⟨rfl, ?_⟩)
        obtain ⟨ids13, con13, snd13, cnt13, ovf13, now13⟩ := B13
        refine zx_goto 143 dd_Fu_reach_74 (by decide) ?_
        exact zx_vret dd_Fu_reach_143 rfl (hq _ _ _ _ _ _ _ _ _ _ _ _ _ (by first | (simp [pf_reach, eq_true hc1, hc2, hc3, he13]; done) | (clear hq; simp_all [pf_reach]; done)) hw13)
      · skip
        refine zx_aload_n (q := 60) dd_Fu_reach_59 rfl rfl ?_
        refine zx_iload_n (q := 61) dd_Fu_reach_60 rfl rfl ?_
        refine zx_iload (q := 63) dd_Fu_reach_61 rfl rfl ?_
        refine zx_lload_n (q := 64) dd_Fu_reach_63 rfl rfl ?_
        refine zx_cV3v (q := 67) dd_Fu_reach_64 rfl cv_Fu_reach_92 ⟨rfl, rfl⟩ (at_f0 hf) rfl rfl (Nat.le_of_ble_eq_true rfl) ⟨Nat.zero_le _, Nat.zero_le _⟩ (ok_Fu_takeClaim hf ho hw hs fun B14 ad14 bz14 nt14 o14 la14 ou14 x0_14 x1_14 de14 st14 nm14 hd14 he14 hw14 => ⟨rfl, ?_⟩)
        obtain ⟨ids14, con14, snd14, cnt14, ovf14, now14⟩ := B14
        refine zx_goto 143 dd_Fu_reach_67 (by decide) ?_
        exact zx_vret dd_Fu_reach_143 rfl (hq _ _ _ _ _ _ _ _ _ _ _ _ _ (by first | (simp [pf_reach, eq_true hc1, hc2, eq_true hc3, he14]; done) | (clear hq; simp_all [pf_reach]; done)) hw14)
    · skip
      exact zx_vret dd_Fu_reach_50 rfl (hq _ _ _ _ _ _ _ _ _ _ _ _ _ (by first | (simp [pf_reach, eq_true hc1, eq_true hc2]; done) | (clear hq; simp_all [pf_reach]; done)) hw)
  · skip
    refine zx_iload (q := 37) dd_Fu_reach_35 rfl rfl ?_
    refine zx_sipush (nI 234) (q := 40) dd_Fu_reach_37 rfl (by decide) ?_
    refine zx_icmp_ne 77 (q := 43) dd_Fu_reach_40 rfl (by decide) (fun hc4 => ?_) (fun hc4 => ?_)
    · skip
      refine zx_aload_n (q := 78) dd_Fu_reach_77 rfl rfl ?_
      refine zx_get (q := 81) dd_Fu_reach_78 rfl fl_Fu_28 (at_f0 hf) rfl ?_
      refine zx_iconst (nI 2) (q := 82) dd_Fu_reach_81 rfl (by decide) ?_
      refine zx_icmp_ne 143 (q := 85) dd_Fu_reach_82 rfl (by decide) (fun hc5 => ?_) (fun hc5 => ?_)
      · skip
        exact zx_vret dd_Fu_reach_143 rfl (hq _ _ _ _ _ _ _ _ _ _ _ _ _ (by first | (simp [pf_reach, hc1, hc4, hc5]; done) | (clear hq; simp_all [pf_reach]; done)) hw)
      · skip
        refine zx_iload (q := 87) dd_Fu_reach_85 rfl rfl ?_
        refine zx_sipush (nI 255) (q := 90) dd_Fu_reach_87 rfl (by decide) ?_
        refine zx_icmp_eq 105 (q := 93) dd_Fu_reach_90 rfl (by decide) (fun hc6 => ?_) (fun hc6 => ?_)
        · skip
          refine zx_iload (q := 107) dd_Fu_reach_105 rfl rfl ?_
          refine zx_sipush (nI 236) (q := 110) dd_Fu_reach_107 rfl (by decide) ?_
          refine zx_icmp_ne 123 (q := 113) dd_Fu_reach_110 rfl (by decide) (fun hc7 => ?_) (fun hc7 => ?_)
          · skip
            refine zx_aload_n (q := 124) dd_Fu_reach_123 rfl rfl ?_
            refine zx_iload (q := 126) dd_Fu_reach_124 rfl rfl ?_
            refine zx_iload (q := 128) dd_Fu_reach_126 rfl rfl ?_
            refine zx_sipush (nI 255) (q := 131) dd_Fu_reach_128 rfl (by decide) ?_
            refine zx_icmp_ne 138 (q := 134) dd_Fu_reach_131 rfl (by decide) (fun hc8 => ?_) (fun hc8 => ?_)
            · skip
              refine zx_iconst (nI 0) (q := 139) dd_Fu_reach_138 rfl (by decide) ?_
              refine zx_topi zb_f ?_
              refine zx_lload_n (q := 140) dd_Fu_reach_139 rfl rfl ?_
              refine zx_cV3v (q := 143) dd_Fu_reach_140 rfl cv_Fu_reach_103 ⟨rfl, rfl⟩ (at_f0 hf) rfl rfl (Nat.le_of_ble_eq_true rfl) ⟨Nat.zero_le _, Nat.zero_le _⟩ (ok0_Fu_takePacket hf ho hw hex0 hex1 fun B15 ad15 bz15 nt15 o15 la15 ou15 x0_15 x1_15 de15 st15 nm15 hd15 he15 hw15 => ⟨rfl, ?_⟩)
              obtain ⟨ids15, con15, snd15, cnt15, ovf15, now15⟩ := B15
              exact zx_vret dd_Fu_reach_143 rfl (hq _ _ _ _ _ _ _ _ _ _ _ _ _ (by first | (simp [pf_reach, hc1, hc4, eq_true hc5, eq_true hc6, hc7, hc8, he15]; done) | (clear hq; simp_all [pf_reach]; done)) hw15)
            · skip
              refine zx_iconst (nI 1) (q := 135) dd_Fu_reach_134 rfl (by decide) ?_
              refine zx_topi zb_1 ?_
              refine zx_goto 139 dd_Fu_reach_135 (by decide) ?_
              refine zx_lload_n (q := 140) dd_Fu_reach_139 rfl rfl ?_
              refine zx_cV3v (q := 143) dd_Fu_reach_140 rfl cv_Fu_reach_103 ⟨rfl, rfl⟩ (at_f0 hf) rfl rfl (Nat.le_of_ble_eq_true rfl) ⟨Nat.zero_le _, Nat.zero_le _⟩ (ok1_Fu_takePacket hf ho hw hex0 hex1 fun B16 ad16 bz16 nt16 o16 la16 ou16 x0_16 x1_16 de16 st16 nm16 hd16 he16 hw16 => ⟨rfl, ?_⟩)
              obtain ⟨ids16, con16, snd16, cnt16, ovf16, now16⟩ := B16
              exact zx_vret dd_Fu_reach_143 rfl (hq _ _ _ _ _ _ _ _ _ _ _ _ _ (by first | (simp [pf_reach, hc1, hc4, eq_true hc5, eq_true hc6, hc7, eq_true hc8, he16]; done) | (clear hq; simp_all [pf_reach]; done)) hw16)
          · skip
            refine zx_aload_n (q := 114) dd_Fu_reach_113 rfl rfl ?_
            refine zx_iload (q := 116) dd_Fu_reach_114 rfl rfl ?_
            refine zx_lload_n (q := 117) dd_Fu_reach_116 rfl rfl ?_
            refine zx_cV2v (q := 120) dd_Fu_reach_117 rfl cv_Fu_reach_99 ⟨rfl, rfl⟩ (at_f0 hf) rfl rfl (Nat.le_of_ble_eq_true rfl) ⟨Nat.zero_le _, Nat.zero_le _⟩ (ok_Fu_takeControl hf ho hw hpk fun B17 ad17 bz17 nt17 o17 la17 ou17 x0_17 x1_17 de17 st17 nm17 hd17 he17 hw17 => ⟨rfl, ?_⟩)
            obtain ⟨ids17, con17, snd17, cnt17, ovf17, now17⟩ := B17
            refine zx_goto 143 dd_Fu_reach_120 (by decide) ?_
            exact zx_vret dd_Fu_reach_143 rfl (hq _ _ _ _ _ _ _ _ _ _ _ _ _ (by first | (simp [pf_reach, hc1, hc4, eq_true hc5, eq_true hc6, eq_true hc7, he17]; done) | (clear hq; simp_all [pf_reach]; done)) hw17)
        · skip
          refine zx_iload (q := 95) dd_Fu_reach_93 rfl rfl ?_
          refine zx_aload_n (q := 96) dd_Fu_reach_95 rfl rfl ?_
          refine zx_get (q := 99) dd_Fu_reach_96 rfl fl_Fu_42 (at_f0 hf) rfl ?_
          refine zx_get (q := 102) dd_Fu_reach_99 rfl fl_Fu_82 (at_f1 hf) rfl ?_
          refine zx_icmp_ne 143 (q := 105) dd_Fu_reach_102 rfl (by decide) (fun hc9 => ?_) (fun hc9 => ?_)
          · skip
            exact zx_vret dd_Fu_reach_143 rfl (hq _ _ _ _ _ _ _ _ _ _ _ _ _ (by first | (simp [pf_reach, hc1, hc4, eq_true hc5, hc6, hc9]; done) | (clear hq; simp_all [pf_reach]; done)) hw)
          · skip
            refine zx_iload (q := 107) dd_Fu_reach_105 rfl rfl ?_
            refine zx_sipush (nI 236) (q := 110) dd_Fu_reach_107 rfl (by decide) ?_
            refine zx_icmp_ne 123 (q := 113) dd_Fu_reach_110 rfl (by decide) (fun hc10 => ?_) (fun hc10 => ?_)
            · skip
              refine zx_aload_n (q := 124) dd_Fu_reach_123 rfl rfl ?_
              refine zx_iload (q := 126) dd_Fu_reach_124 rfl rfl ?_
              refine zx_iload (q := 128) dd_Fu_reach_126 rfl rfl ?_
              refine zx_sipush (nI 255) (q := 131) dd_Fu_reach_128 rfl (by decide) ?_
              refine zx_icmp_ne 138 (q := 134) dd_Fu_reach_131 rfl (by decide) (fun hc11 => ?_) (fun hc11 => ?_)
              · skip
                refine zx_iconst (nI 0) (q := 139) dd_Fu_reach_138 rfl (by decide) ?_
                refine zx_topi zb_f ?_
                refine zx_lload_n (q := 140) dd_Fu_reach_139 rfl rfl ?_
                refine zx_cV3v (q := 143) dd_Fu_reach_140 rfl cv_Fu_reach_103 ⟨rfl, rfl⟩ (at_f0 hf) rfl rfl (Nat.le_of_ble_eq_true rfl) ⟨Nat.zero_le _, Nat.zero_le _⟩ (ok0_Fu_takePacket hf ho hw hex0 hex1 fun B18 ad18 bz18 nt18 o18 la18 ou18 x0_18 x1_18 de18 st18 nm18 hd18 he18 hw18 => ⟨rfl, ?_⟩)
                obtain ⟨ids18, con18, snd18, cnt18, ovf18, now18⟩ := B18
                exact zx_vret dd_Fu_reach_143 rfl (hq _ _ _ _ _ _ _ _ _ _ _ _ _ (by first | (simp [pf_reach, hc1, hc4, eq_true hc5, hc6, eq_true hc9, hc10, hc11, he18]; done) | (clear hq; simp_all [pf_reach]; done)) hw18)
              · skip
                refine zx_iconst (nI 1) (q := 135) dd_Fu_reach_134 rfl (by decide) ?_
                refine zx_topi zb_1 ?_
                refine zx_goto 139 dd_Fu_reach_135 (by decide) ?_
                refine zx_lload_n (q := 140) dd_Fu_reach_139 rfl rfl ?_
                refine zx_cV3v (q := 143) dd_Fu_reach_140 rfl cv_Fu_reach_103 ⟨rfl, rfl⟩ (at_f0 hf) rfl rfl (Nat.le_of_ble_eq_true rfl) ⟨Nat.zero_le _, Nat.zero_le _⟩ (ok1_Fu_takePacket hf ho hw hex0 hex1 fun B19 ad19 bz19 nt19 o19 la19 ou19 x0_19 x1_19 de19 st19 nm19 hd19 he19 hw19 => ⟨rfl, ?_⟩)
                obtain ⟨ids19, con19, snd19, cnt19, ovf19, now19⟩ := B19
                exact zx_vret dd_Fu_reach_143 rfl (hq _ _ _ _ _ _ _ _ _ _ _ _ _ (by first | (simp [pf_reach, hc1, hc4, eq_true hc5, hc6, eq_true hc9, hc10, eq_true hc11, he19]; done) | (clear hq; simp_all [pf_reach]; done)) hw19)
            · skip
              refine zx_aload_n (q := 114) dd_Fu_reach_113 rfl rfl ?_
              refine zx_iload (q := 116) dd_Fu_reach_114 rfl rfl ?_
              refine zx_lload_n (q := 117) dd_Fu_reach_116 rfl rfl ?_
              refine zx_cV2v (q := 120) dd_Fu_reach_117 rfl cv_Fu_reach_99 ⟨rfl, rfl⟩ (at_f0 hf) rfl rfl (Nat.le_of_ble_eq_true rfl) ⟨Nat.zero_le _, Nat.zero_le _⟩ (ok_Fu_takeControl hf ho hw hpk fun B20 ad20 bz20 nt20 o20 la20 ou20 x0_20 x1_20 de20 st20 nm20 hd20 he20 hw20 => ⟨rfl, ?_⟩)
              obtain ⟨ids20, con20, snd20, cnt20, ovf20, now20⟩ := B20
              refine zx_goto 143 dd_Fu_reach_120 (by decide) ?_
              exact zx_vret dd_Fu_reach_143 rfl (hq _ _ _ _ _ _ _ _ _ _ _ _ _ (by first | (simp [pf_reach, hc1, hc4, eq_true hc5, hc6, eq_true hc9, eq_true hc10, he20]; done) | (clear hq; simp_all [pf_reach]; done)) hw20)
    · skip
      refine zx_aload_n (q := 44) dd_Fu_reach_43 rfl rfl ?_
      refine zx_get (q := 47) dd_Fu_reach_44 rfl fl_Fu_28 (at_f0 hf) rfl ?_
      refine zx_if_ne 51 (q := 50) dd_Fu_reach_47 rfl (by decide) (fun hc12 => ?_) (fun hc12 => ?_)
      · skip
        refine zx_iload (q := 53) dd_Fu_reach_51 rfl rfl ?_
        refine zx_sipush (nI 238) (q := 56) dd_Fu_reach_53 rfl (by decide) ?_
        refine zx_icmp_ne 70 (q := 59) dd_Fu_reach_56 rfl (by decide) (fun hc13 => ?_) (fun hc13 => ?_)
        · skip
          refine zx_aload_n (q := 71) dd_Fu_reach_70 rfl rfl ?_
          refine zx_cV0v (q := 74) dd_Fu_reach_71 rfl cv_Fu_reach_96 ⟨rfl, rfl⟩ (at_f0 hf) rfl rfl (Nat.le_of_ble_eq_true rfl) ⟨Nat.zero_le _, Nat.zero_le _⟩ (ok_Fu_sendClaim hf hw fun B21 he21 hw21 => ⟨rfl, ?_⟩)
          obtain ⟨ids21, con21, snd21, cnt21, ovf21, now21⟩ := B21
          refine zx_goto 143 dd_Fu_reach_74 (by decide) ?_
          exact zx_vret dd_Fu_reach_143 rfl (hq _ _ _ _ _ _ _ _ _ _ _ _ _ (by first | (simp [pf_reach, hc1, eq_true hc4, hc12, hc13, he21]; done) | (clear hq; simp_all [pf_reach]; done)) hw21)
        · skip
          refine zx_aload_n (q := 60) dd_Fu_reach_59 rfl rfl ?_
          refine zx_iload_n (q := 61) dd_Fu_reach_60 rfl rfl ?_
          refine zx_iload (q := 63) dd_Fu_reach_61 rfl rfl ?_
          refine zx_lload_n (q := 64) dd_Fu_reach_63 rfl rfl ?_
          refine zx_cV3v (q := 67) dd_Fu_reach_64 rfl cv_Fu_reach_92 ⟨rfl, rfl⟩ (at_f0 hf) rfl rfl (Nat.le_of_ble_eq_true rfl) ⟨Nat.zero_le _, Nat.zero_le _⟩ (ok_Fu_takeClaim hf ho hw hs fun B22 ad22 bz22 nt22 o22 la22 ou22 x0_22 x1_22 de22 st22 nm22 hd22 he22 hw22 => ⟨rfl, ?_⟩)
          obtain ⟨ids22, con22, snd22, cnt22, ovf22, now22⟩ := B22
          refine zx_goto 143 dd_Fu_reach_67 (by decide) ?_
          exact zx_vret dd_Fu_reach_143 rfl (hq _ _ _ _ _ _ _ _ _ _ _ _ _ (by first | (simp [pf_reach, hc1, eq_true hc4, hc12, eq_true hc13, he22]; done) | (clear hq; simp_all [pf_reach]; done)) hw22)
      · skip
        exact zx_vret dd_Fu_reach_50 rfl (hq _ _ _ _ _ _ _ _ _ _ _ _ _ (by first | (simp [pf_reach, hc1, eq_true hc4, eq_true hc12]; done) | (clear hq; simp_all [pf_reach]; done)) hw)
