theorem pm_msk (x : Int64) : ∃ c : Nat, c < 256 ∧ (x &&& lN 255).toInt32 = nI c := by
  obtain ⟨m, hm, rfl⟩ := wb_of x
  refine ⟨m % 256, Nat.mod_lt _ (by decide), ?_⟩
  rw [show lN 255 = lN (2 ^ 8 - 1) from rfl, wb_mask hm (by decide), lN_i]
theorem pm_fin_20 (D : zMd) (f j : Nat) (how : Int32) : (pm_fin D f how).2.2.2.1 20 j = D.2.2.2.1 20 j := by
  obtain ⟨t, fr, lo, I, J⟩ := D
  simp [pm_fin, up2_r]
theorem pm_fb2_n (d : Int64) : ∃ c : Nat, c < 256 ∧ pm_fb2 d = nI c := pm_msk _
theorem pm_fb3_n (d : Int64) : ∃ c : Nat, c < 256 ∧ pm_fb3 d = nI c := pm_msk _
theorem pm_ntd_up {I : Nat → Nat → Int32} {f k i : Nat} {v : Int32} {a : Int32} (h : k ≠ 5) : ∀ j, pm_ntd (up2 I k i v) f a j = pm_ntd I f a j
  | 0 => rfl
  | j + 1 => by
    unfold pm_ntd
    rw [pm_ntd_up h j]
    simp [up2_r, Ne.symm h]
theorem pm_spare_up {I : Nat → Nat → Int32} {f k i : Nat} {v : Int32} (h : k ≠ 5) : pm_spare (up2 I k i v) f = pm_spare I f := by
  unfold pm_spare
  simp only [pm_ntd_up h]
set_option maxRecDepth 100000 in
set_option maxHeartbeats 4000000 in
theorem ok_Md_control {E : zxE} {b n : Nat} {B : zB} {F : Nat → zFn} {D : zMd} {Q : Option Value → zxH → Nat → Prop} {f c : Nat} {tg src : Int32} {d : Int64} (hf : f < 5) (hc : c ≤ 2) (hins : D.2.2.2.1 17 f = nI c) (hpk : ∃ s : Nat, s < 256 ∧ pm_pk (D.2.2.2.1 13 f) = nI s) (hw : D.2.1 ≤ 48) (hq : ∀ D', pm_control D f c tg src d = D' → D'.2.1 ≤ 48 → Q none (zs b (B, F, D')) n) : zx_Ok E my_Md_control mi_Md_control [.ref (b + 71), .int (nI f), .int tg, .int src, .long d] (zs b (B, F, D)) n Q := by
  obtain ⟨t, fr, lo, I, J⟩ := D
  have hins : I 17 f = nI c := hins
  obtain ⟨s9, hs9, es⟩ := hpk
  have es : pm_pk (I 13 f) = nI s9 := es
  obtain ⟨c2, hz2, ec2⟩ := pm_fb2_n d
  obtain ⟨a3, ha3, ea3⟩ := pm_fb3_n d
  have cl2 : (nI c2).toNatClampNeg = c2 := nI_clamp (by omega)
  have cl3 : (nI a3).toNatClampNeg = a3 := nI_clamp (by omega)
  have cls : (nI s9).toNatClampNeg = s9 := nI_clamp (by omega)
  refine zx_start [some (.ref (b + 71)), some (.int (nI f)), some (.int tg), some (.int src), some (.long d), none, none, none, none, none, none, none] (by decide) rfl rfl (Nat.le_of_ble_eq_true rfl) rfl ?_
  refine zx_lload (q := 2) dd_Md_control_0 rfl rfl ?_
  refine zx_ldc2 _ (q := 5) dd_Md_control_2 rfl kk_Md_126 ?_
  refine zx_land (q := 6) dd_Md_control_5 rfl ?_
  refine zx_l2i (q := 7) dd_Md_control_6 rfl ?_
  refine zx_topi (x' := pm_fbk d) rfl ?_
  refine zx_istore_6 (q := 9) dd_Md_control_7 rfl (by decide) rfl ?_
  refine zx_lload (q := 11) dd_Md_control_9 rfl rfl ?_
  refine zx_bipush (nI 8) (q := 13) dd_Md_control_11 rfl (by decide) ?_
  refine zx_lshr (q := 14) dd_Md_control_13 rfl ?_
  refine zx_ldc2 _ (q := 17) dd_Md_control_14 rfl kk_Md_126 ?_
  refine zx_land (q := 18) dd_Md_control_17 rfl ?_
  refine zx_l2i (q := 19) dd_Md_control_18 rfl ?_
  refine zx_topi (x' := pm_fb2 d) rfl ?_
  refine zx_istore_7 (q := 21) dd_Md_control_19 rfl (by decide) rfl ?_
  refine zx_lload (q := 23) dd_Md_control_21 rfl rfl ?_
  refine zx_bipush (nI 16) (q := 25) dd_Md_control_23 rfl (by decide) ?_
  refine zx_lshr (q := 26) dd_Md_control_25 rfl ?_
  refine zx_ldc2 _ (q := 29) dd_Md_control_26 rfl kk_Md_126 ?_
  refine zx_land (q := 30) dd_Md_control_29 rfl ?_
  refine zx_l2i (q := 31) dd_Md_control_30 rfl ?_
  refine zx_topi (x' := pm_fb3 d) rfl ?_
  refine zx_istore_8 (q := 33) dd_Md_control_31 rfl (by decide) rfl ?_
  refine zx_lload (q := 35) dd_Md_control_33 rfl rfl ?_
  refine zx_bipush (nI 40) (q := 37) dd_Md_control_35 rfl (by decide) ?_
  refine zx_lshr (q := 38) dd_Md_control_37 rfl ?_
  refine zx_ldc2 _ (q := 41) dd_Md_control_38 rfl kk_Md_173 ?_
  refine zx_land (q := 42) dd_Md_control_41 rfl ?_
  refine zx_l2i (q := 43) dd_Md_control_42 rfl ?_
  refine zx_topi (x' := pm_grp d) rfl ?_
  refine zx_istore_9 (q := 45) dd_Md_control_43 rfl (by decide) rfl ?_
  refine zx_aload_n (q := 46) dd_Md_control_45 rfl rfl ?_
  refine zx_get (q := 49) dd_Md_control_46 rfl fl_Md_39 at_m rfl ?_
  refine zx_iload_n (q := 50) dd_Md_control_49 rfl rfl ?_
  refine zx_iald (q := 51) dd_Md_control_50 rfl at_m9 rfl (by omega) (by decide) ?_
  refine zx_iconst (nI 2) (q := 52) dd_Md_control_51 rfl (by decide) ?_
  refine zx_icmp_lt 80 (q := 55) dd_Md_control_52 rfl (by decide) (fun hc1 => ?_) (fun hc1 => ?_)
  · skip
    refine zx_iconst (nI 0) (q := 81) dd_Md_control_80 rfl (by decide) ?_
    refine zx_istore_10 (q := 83) dd_Md_control_81 rfl (by decide) rfl ?_
    refine zx_aload_n (q := 84) dd_Md_control_83 rfl rfl ?_
    refine zx_iload_n (q := 85) dd_Md_control_84 rfl rfl ?_
    refine zx_iload_n (q := 86) dd_Md_control_85 rfl rfl ?_
    refine zx_iconst (nI 0) (q := 87) dd_Md_control_86 rfl (by decide) ?_
    refine zx_cV3i (q := 90) dd_Md_control_87 rfl cv_Md_control_175 ⟨rfl, rfl⟩ at_m rfl rfl (Nat.le_of_ble_eq_true rfl) ⟨Nat.zero_le _, Nat.zero_le _⟩ (ok_Md_find hf hc hins fun r1 he1 => ⟨_, rfl, ?_⟩)
    refine zx_istore_11 (q := 92) dd_Md_control_90 rfl (by decide) rfl ?_
    refine zx_iload_n (q := 93) dd_Md_control_92 rfl rfl ?_
    refine zx_sipush (nI 255) (q := 96) dd_Md_control_93 rfl (by decide) ?_
    refine zx_icmp_ne 127 (q := 99) dd_Md_control_96 rfl (by decide) (fun hc2 => ?_) (fun hc2 => ?_)
    · skip
      refine zx_iload (q := 129) dd_Md_control_127 rfl rfl ?_
      refine zx_bipush (nI 16) (q := 131) dd_Md_control_129 rfl (by decide) ?_
      refine zx_icmp_ne 155 (q := 134) dd_Md_control_131 rfl (by decide) (fun hc3 => ?_) (fun hc3 => ?_)
      · skip
        refine zx_iload (q := 157) dd_Md_control_155 rfl rfl ?_
        refine zx_bipush (nI 17) (q := 159) dd_Md_control_157 rfl (by decide) ?_
        refine zx_icmp_ne 179 (q := 162) dd_Md_control_159 rfl (by decide) (fun hc4 => ?_) (fun hc4 => ?_)
        · skip
          refine zx_iload (q := 181) dd_Md_control_179 rfl rfl ?_
          refine zx_bipush (nI 19) (q := 183) dd_Md_control_181 rfl (by decide) ?_
          refine zx_icmp_ne 201 (q := 186) dd_Md_control_183 rfl (by decide) (fun hc5 => ?_) (fun hc5 => ?_)
          · skip
            refine zx_iload (q := 203) dd_Md_control_201 rfl rfl ?_
            refine zx_sipush (nI 255) (q := 206) dd_Md_control_203 rfl (by decide) ?_
            refine zx_icmp_ne 248 (q := 209) dd_Md_control_206 rfl (by decide) (fun hc6 => ?_) (fun hc6 => ?_)
            · skip
              exact zx_vret dd_Md_control_248 rfl (hq _ (by first | (simp [pm_control, pm_ans, pm_abS, pm_fin, up2_r, ec2, ea3, es, cl2, cl3, cls, hc1, he1, hc2, hc3, hc4, hc5, hc6]; done) | (simp [pm_control, pm_ans, pm_abS, pm_fin_20, hc1, he1, hc2, hc3, hc4, hc5, hc6]; done) | (clear hq; simp_all [pm_control, pm_ans, pm_abS, pm_fin, up2_r]; done)) hw)
            · skip
              refine zx_iload (q := 211) dd_Md_control_209 rfl rfl ?_
              refine zx_if_eq 224 (q := 214) dd_Md_control_211 rfl (by decide) (fun hc7 => ?_) (fun hc7 => absurd (by decide) hc7)
              refine zx_iload (q := 226) dd_Md_control_224 rfl rfl ?_
              refine zx_if_lt 248 (q := 229) dd_Md_control_226 rfl (by decide) (fun hc8 => ?_) (fun hc8 => ?_)
              · skip
                exact zx_vret dd_Md_control_248 rfl (hq _ (by first | (simp [pm_control, pm_ans, pm_abS, pm_fin, up2_r, ec2, ea3, es, cl2, cl3, cls, hc1, he1, hc2, hc3, hc4, hc5, eq_true hc6, hc8]; done) | (simp [pm_control, pm_ans, pm_abS, pm_fin_20, hc1, he1, hc2, hc3, hc4, hc5, eq_true hc6, hc8]; done) | (clear hq; simp_all [pm_control, pm_ans, pm_abS, pm_fin, up2_r]; done)) hw)
              · skip
                obtain ⟨u, hu1, hu2, hu3⟩ := pm_findK_n (I := I) c (2 * f) (he1 ▸ hc8)
                have hru : r1 = nI u := he1.symm.trans hu3
                subst hru
                refine zx_aload_n (q := 230) dd_Md_control_229 rfl rfl ?_
                refine zx_get (q := 233) dd_Md_control_230 rfl fl_Md_72 at_m rfl ?_
                refine zx_iload (q := 235) dd_Md_control_233 rfl rfl ?_
                refine zx_iald (q := 236) dd_Md_control_235 rfl at_m20 rfl (by omega) (by decide) ?_
                refine zx_iload (q := 238) dd_Md_control_236 rfl rfl ?_
                refine zx_icmp_ne 248 (q := 241) dd_Md_control_238 rfl (by decide) (fun hc9 => ?_) (fun hc9 => ?_)
                · skip
                  exact zx_vret dd_Md_control_248 rfl (hq _ (by first | (simp [pm_control, pm_ans, pm_abS, pm_fin, up2_r, ec2, ea3, es, cl2, cl3, cls, hc1, he1, hc2, hc3, hc4, hc5, eq_true hc6, hc8, nI_clamp (show u < 2 ^ 31 by omega), hc9]; done) | (simp [pm_control, pm_ans, pm_abS, pm_fin_20, hc1, he1, hc2, hc3, hc4, hc5, eq_true hc6, hc8, nI_clamp (show u < 2 ^ 31 by omega), hc9]; done) | (clear hq; simp_all [pm_control, pm_ans, pm_abS, pm_fin, up2_r]; done)) hw)
                · skip
                  refine zx_aload_n (q := 242) dd_Md_control_241 rfl rfl ?_
                  refine zx_iload_n (q := 243) dd_Md_control_242 rfl rfl ?_
                  refine zx_iload (q := 245) dd_Md_control_243 rfl rfl ?_
                  refine zx_cV2v (q := 248) dd_Md_control_245 rfl cv_Md_control_191 ⟨rfl, rfl⟩ at_m rfl rfl (Nat.le_of_ble_eq_true rfl) ⟨Nat.zero_le _, Nat.zero_le _⟩ (ok_Md_close hf (by omega) hw fun D2 he2 hw2 => ⟨rfl, ?_⟩)
                  obtain ⟨t2, fr2, lo2, I2, J2⟩ := D2
                  exact zx_vret dd_Md_control_248 rfl (hq _ (by first | (simp [pm_control, pm_ans, pm_abS, pm_fin, up2_r, ec2, ea3, es, cl2, cl3, cls, hc1, he1, hc2, hc3, hc4, hc5, eq_true hc6, hc8, nI_clamp (show u < 2 ^ 31 by omega), eq_true hc9, he2]; done) | (simp [pm_control, pm_ans, pm_abS, pm_fin_20, hc1, he1, hc2, hc3, hc4, hc5, eq_true hc6, hc8, nI_clamp (show u < 2 ^ 31 by omega), eq_true hc9, he2]; done) | (clear hq; simp_all [pm_control, pm_ans, pm_abS, pm_fin, up2_r]; done)) hw2)
          · skip
            refine zx_iload (q := 188) dd_Md_control_186 rfl rfl ?_
            refine zx_if_eq 201 (q := 191) dd_Md_control_188 rfl (by decide) (fun hc10 => ?_) (fun hc10 => absurd (by decide) hc10)
            refine zx_iload (q := 203) dd_Md_control_201 rfl rfl ?_
            refine zx_sipush (nI 255) (q := 206) dd_Md_control_203 rfl (by decide) ?_
            refine zx_icmp_ne 248 (q := 209) dd_Md_control_206 rfl (by decide) (fun hc11 => ?_) (fun hc11 => ?_)
            · skip
              exact zx_vret dd_Md_control_248 rfl (hq _ (by first | (simp [pm_control, pm_ans, pm_abS, pm_fin, up2_r, ec2, ea3, es, cl2, cl3, cls, hc1, he1, hc2, hc3, hc4, eq_true hc5, hc11]; done) | (simp [pm_control, pm_ans, pm_abS, pm_fin_20, hc1, he1, hc2, hc3, hc4, eq_true hc5, hc11]; done) | (clear hq; simp_all [pm_control, pm_ans, pm_abS, pm_fin, up2_r]; done)) hw)
            · skip
              refine zx_iload (q := 211) dd_Md_control_209 rfl rfl ?_
              refine zx_if_eq 224 (q := 214) dd_Md_control_211 rfl (by decide) (fun hc12 => ?_) (fun hc12 => absurd (by decide) hc12)
              refine zx_iload (q := 226) dd_Md_control_224 rfl rfl ?_
              refine zx_if_lt 248 (q := 229) dd_Md_control_226 rfl (by decide) (fun hc13 => ?_) (fun hc13 => ?_)
              · skip
                exact zx_vret dd_Md_control_248 rfl (hq _ (by first | (simp [pm_control, pm_ans, pm_abS, pm_fin, up2_r, ec2, ea3, es, cl2, cl3, cls, hc1, he1, hc2, hc3, hc4, eq_true hc5, eq_true hc11, hc13]; done) | (simp [pm_control, pm_ans, pm_abS, pm_fin_20, hc1, he1, hc2, hc3, hc4, eq_true hc5, eq_true hc11, hc13]; done) | (clear hq; simp_all [pm_control, pm_ans, pm_abS, pm_fin, up2_r]; done)) hw)
              · skip
                obtain ⟨u, hu1, hu2, hu3⟩ := pm_findK_n (I := I) c (2 * f) (he1 ▸ hc13)
                have hru : r1 = nI u := he1.symm.trans hu3
                subst hru
                refine zx_aload_n (q := 230) dd_Md_control_229 rfl rfl ?_
                refine zx_get (q := 233) dd_Md_control_230 rfl fl_Md_72 at_m rfl ?_
                refine zx_iload (q := 235) dd_Md_control_233 rfl rfl ?_
                refine zx_iald (q := 236) dd_Md_control_235 rfl at_m20 rfl (by omega) (by decide) ?_
                refine zx_iload (q := 238) dd_Md_control_236 rfl rfl ?_
                refine zx_icmp_ne 248 (q := 241) dd_Md_control_238 rfl (by decide) (fun hc14 => ?_) (fun hc14 => ?_)
                · skip
                  exact zx_vret dd_Md_control_248 rfl (hq _ (by first | (simp [pm_control, pm_ans, pm_abS, pm_fin, up2_r, ec2, ea3, es, cl2, cl3, cls, hc1, he1, hc2, hc3, hc4, eq_true hc5, eq_true hc11, hc13, nI_clamp (show u < 2 ^ 31 by omega), hc14]; done) | (simp [pm_control, pm_ans, pm_abS, pm_fin_20, hc1, he1, hc2, hc3, hc4, eq_true hc5, eq_true hc11, hc13, nI_clamp (show u < 2 ^ 31 by omega), hc14]; done) | (clear hq; simp_all [pm_control, pm_ans, pm_abS, pm_fin, up2_r]; done)) hw)
                · skip
                  refine zx_aload_n (q := 242) dd_Md_control_241 rfl rfl ?_
                  refine zx_iload_n (q := 243) dd_Md_control_242 rfl rfl ?_
                  refine zx_iload (q := 245) dd_Md_control_243 rfl rfl ?_
                  refine zx_cV2v (q := 248) dd_Md_control_245 rfl cv_Md_control_191 ⟨rfl, rfl⟩ at_m rfl rfl (Nat.le_of_ble_eq_true rfl) ⟨Nat.zero_le _, Nat.zero_le _⟩ (ok_Md_close hf (by omega) hw fun D3 he3 hw3 => ⟨rfl, ?_⟩)
                  obtain ⟨t3, fr3, lo3, I3, J3⟩ := D3
                  exact zx_vret dd_Md_control_248 rfl (hq _ (by first | (simp [pm_control, pm_ans, pm_abS, pm_fin, up2_r, ec2, ea3, es, cl2, cl3, cls, hc1, he1, hc2, hc3, hc4, eq_true hc5, eq_true hc11, hc13, nI_clamp (show u < 2 ^ 31 by omega), eq_true hc14, he3]; done) | (simp [pm_control, pm_ans, pm_abS, pm_fin_20, hc1, he1, hc2, hc3, hc4, eq_true hc5, eq_true hc11, hc13, nI_clamp (show u < 2 ^ 31 by omega), eq_true hc14, he3]; done) | (clear hq; simp_all [pm_control, pm_ans, pm_abS, pm_fin, up2_r]; done)) hw3)
        · skip
          refine zx_iload (q := 164) dd_Md_control_162 rfl rfl ?_
          refine zx_if_eq 179 (q := 167) dd_Md_control_164 rfl (by decide) (fun hc15 => ?_) (fun hc15 => absurd (by decide) hc15)
          refine zx_iload (q := 181) dd_Md_control_179 rfl rfl ?_
          refine zx_bipush (nI 19) (q := 183) dd_Md_control_181 rfl (by decide) ?_
          refine zx_icmp_ne 201 (q := 186) dd_Md_control_183 rfl (by decide) (fun hc16 => ?_) (fun hc16 => ?_)
          · skip
            refine zx_iload (q := 203) dd_Md_control_201 rfl rfl ?_
            refine zx_sipush (nI 255) (q := 206) dd_Md_control_203 rfl (by decide) ?_
            refine zx_icmp_ne 248 (q := 209) dd_Md_control_206 rfl (by decide) (fun hc17 => ?_) (fun hc17 => ?_)
            · skip
              exact zx_vret dd_Md_control_248 rfl (hq _ (by first | (simp [pm_control, pm_ans, pm_abS, pm_fin, up2_r, ec2, ea3, es, cl2, cl3, cls, hc1, he1, hc2, hc3, eq_true hc4, hc16, hc17]; done) | (simp [pm_control, pm_ans, pm_abS, pm_fin_20, hc1, he1, hc2, hc3, eq_true hc4, hc16, hc17]; done) | (clear hq; simp_all [pm_control, pm_ans, pm_abS, pm_fin, up2_r]; done)) hw)
            · skip
              refine zx_iload (q := 211) dd_Md_control_209 rfl rfl ?_
              refine zx_if_eq 224 (q := 214) dd_Md_control_211 rfl (by decide) (fun hc18 => ?_) (fun hc18 => absurd (by decide) hc18)
              refine zx_iload (q := 226) dd_Md_control_224 rfl rfl ?_
              refine zx_if_lt 248 (q := 229) dd_Md_control_226 rfl (by decide) (fun hc19 => ?_) (fun hc19 => ?_)
              · skip
                exact zx_vret dd_Md_control_248 rfl (hq _ (by first | (simp [pm_control, pm_ans, pm_abS, pm_fin, up2_r, ec2, ea3, es, cl2, cl3, cls, hc1, he1, hc2, hc3, eq_true hc4, hc16, eq_true hc17, hc19]; done) | (simp [pm_control, pm_ans, pm_abS, pm_fin_20, hc1, he1, hc2, hc3, eq_true hc4, hc16, eq_true hc17, hc19]; done) | (clear hq; simp_all [pm_control, pm_ans, pm_abS, pm_fin, up2_r]; done)) hw)
              · skip
                obtain ⟨u, hu1, hu2, hu3⟩ := pm_findK_n (I := I) c (2 * f) (he1 ▸ hc19)
                have hru : r1 = nI u := he1.symm.trans hu3
                subst hru
                refine zx_aload_n (q := 230) dd_Md_control_229 rfl rfl ?_
                refine zx_get (q := 233) dd_Md_control_230 rfl fl_Md_72 at_m rfl ?_
                refine zx_iload (q := 235) dd_Md_control_233 rfl rfl ?_
                refine zx_iald (q := 236) dd_Md_control_235 rfl at_m20 rfl (by omega) (by decide) ?_
                refine zx_iload (q := 238) dd_Md_control_236 rfl rfl ?_
                refine zx_icmp_ne 248 (q := 241) dd_Md_control_238 rfl (by decide) (fun hc20 => ?_) (fun hc20 => ?_)
                · skip
                  exact zx_vret dd_Md_control_248 rfl (hq _ (by first | (simp [pm_control, pm_ans, pm_abS, pm_fin, up2_r, ec2, ea3, es, cl2, cl3, cls, hc1, he1, hc2, hc3, eq_true hc4, hc16, eq_true hc17, hc19, nI_clamp (show u < 2 ^ 31 by omega), hc20]; done) | (simp [pm_control, pm_ans, pm_abS, pm_fin_20, hc1, he1, hc2, hc3, eq_true hc4, hc16, eq_true hc17, hc19, nI_clamp (show u < 2 ^ 31 by omega), hc20]; done) | (clear hq; simp_all [pm_control, pm_ans, pm_abS, pm_fin, up2_r]; done)) hw)
                · skip
                  refine zx_aload_n (q := 242) dd_Md_control_241 rfl rfl ?_
                  refine zx_iload_n (q := 243) dd_Md_control_242 rfl rfl ?_
                  refine zx_iload (q := 245) dd_Md_control_243 rfl rfl ?_
                  refine zx_cV2v (q := 248) dd_Md_control_245 rfl cv_Md_control_191 ⟨rfl, rfl⟩ at_m rfl rfl (Nat.le_of_ble_eq_true rfl) ⟨Nat.zero_le _, Nat.zero_le _⟩ (ok_Md_close hf (by omega) hw fun D4 he4 hw4 => ⟨rfl, ?_⟩)
                  obtain ⟨t4, fr4, lo4, I4, J4⟩ := D4
                  exact zx_vret dd_Md_control_248 rfl (hq _ (by first | (simp [pm_control, pm_ans, pm_abS, pm_fin, up2_r, ec2, ea3, es, cl2, cl3, cls, hc1, he1, hc2, hc3, eq_true hc4, hc16, eq_true hc17, hc19, nI_clamp (show u < 2 ^ 31 by omega), eq_true hc20, he4]; done) | (simp [pm_control, pm_ans, pm_abS, pm_fin_20, hc1, he1, hc2, hc3, eq_true hc4, hc16, eq_true hc17, hc19, nI_clamp (show u < 2 ^ 31 by omega), eq_true hc20, he4]; done) | (clear hq; simp_all [pm_control, pm_ans, pm_abS, pm_fin, up2_r]; done)) hw4)
          · skip
            refine zx_iload (q := 188) dd_Md_control_186 rfl rfl ?_
            refine zx_if_eq 201 (q := 191) dd_Md_control_188 rfl (by decide) (fun hc21 => ?_) (fun hc21 => absurd (by decide) hc21)
            refine zx_iload (q := 203) dd_Md_control_201 rfl rfl ?_
            refine zx_sipush (nI 255) (q := 206) dd_Md_control_203 rfl (by decide) ?_
            refine zx_icmp_ne 248 (q := 209) dd_Md_control_206 rfl (by decide) (fun hc22 => ?_) (fun hc22 => ?_)
            · skip
              exact zx_vret dd_Md_control_248 rfl (hq _ (by first | (simp [pm_control, pm_ans, pm_abS, pm_fin, up2_r, ec2, ea3, es, cl2, cl3, cls, hc1, he1, hc2, hc3, eq_true hc4, eq_true hc16, hc22]; done) | (simp [pm_control, pm_ans, pm_abS, pm_fin_20, hc1, he1, hc2, hc3, eq_true hc4, eq_true hc16, hc22]; done) | (clear hq; simp_all [pm_control, pm_ans, pm_abS, pm_fin, up2_r]; done)) hw)
            · skip
              refine zx_iload (q := 211) dd_Md_control_209 rfl rfl ?_
              refine zx_if_eq 224 (q := 214) dd_Md_control_211 rfl (by decide) (fun hc23 => ?_) (fun hc23 => absurd (by decide) hc23)
              refine zx_iload (q := 226) dd_Md_control_224 rfl rfl ?_
              refine zx_if_lt 248 (q := 229) dd_Md_control_226 rfl (by decide) (fun hc24 => ?_) (fun hc24 => ?_)
              · skip
                exact zx_vret dd_Md_control_248 rfl (hq _ (by first | (simp [pm_control, pm_ans, pm_abS, pm_fin, up2_r, ec2, ea3, es, cl2, cl3, cls, hc1, he1, hc2, hc3, eq_true hc4, eq_true hc16, eq_true hc22, hc24]; done) | (simp [pm_control, pm_ans, pm_abS, pm_fin_20, hc1, he1, hc2, hc3, eq_true hc4, eq_true hc16, eq_true hc22, hc24]; done) | (clear hq; simp_all [pm_control, pm_ans, pm_abS, pm_fin, up2_r]; done)) hw)
              · skip
                obtain ⟨u, hu1, hu2, hu3⟩ := pm_findK_n (I := I) c (2 * f) (he1 ▸ hc24)
                have hru : r1 = nI u := he1.symm.trans hu3
                subst hru
                refine zx_aload_n (q := 230) dd_Md_control_229 rfl rfl ?_
                refine zx_get (q := 233) dd_Md_control_230 rfl fl_Md_72 at_m rfl ?_
                refine zx_iload (q := 235) dd_Md_control_233 rfl rfl ?_
                refine zx_iald (q := 236) dd_Md_control_235 rfl at_m20 rfl (by omega) (by decide) ?_
                refine zx_iload (q := 238) dd_Md_control_236 rfl rfl ?_
                refine zx_icmp_ne 248 (q := 241) dd_Md_control_238 rfl (by decide) (fun hc25 => ?_) (fun hc25 => ?_)
                · skip
                  exact zx_vret dd_Md_control_248 rfl (hq _ (by first | (simp [pm_control, pm_ans, pm_abS, pm_fin, up2_r, ec2, ea3, es, cl2, cl3, cls, hc1, he1, hc2, hc3, eq_true hc4, eq_true hc16, eq_true hc22, hc24, nI_clamp (show u < 2 ^ 31 by omega), hc25]; done) | (simp [pm_control, pm_ans, pm_abS, pm_fin_20, hc1, he1, hc2, hc3, eq_true hc4, eq_true hc16, eq_true hc22, hc24, nI_clamp (show u < 2 ^ 31 by omega), hc25]; done) | (clear hq; simp_all [pm_control, pm_ans, pm_abS, pm_fin, up2_r]; done)) hw)
                · skip
                  refine zx_aload_n (q := 242) dd_Md_control_241 rfl rfl ?_
                  refine zx_iload_n (q := 243) dd_Md_control_242 rfl rfl ?_
                  refine zx_iload (q := 245) dd_Md_control_243 rfl rfl ?_
                  refine zx_cV2v (q := 248) dd_Md_control_245 rfl cv_Md_control_191 ⟨rfl, rfl⟩ at_m rfl rfl (Nat.le_of_ble_eq_true rfl) ⟨Nat.zero_le _, Nat.zero_le _⟩ (ok_Md_close hf (by omega) hw fun D5 he5 hw5 => ⟨rfl, ?_⟩)
                  obtain ⟨t5, fr5, lo5, I5, J5⟩ := D5
                  exact zx_vret dd_Md_control_248 rfl (hq _ (by first | (simp [pm_control, pm_ans, pm_abS, pm_fin, up2_r, ec2, ea3, es, cl2, cl3, cls, hc1, he1, hc2, hc3, eq_true hc4, eq_true hc16, eq_true hc22, hc24, nI_clamp (show u < 2 ^ 31 by omega), eq_true hc25, he5]; done) | (simp [pm_control, pm_ans, pm_abS, pm_fin_20, hc1, he1, hc2, hc3, eq_true hc4, eq_true hc16, eq_true hc22, hc24, nI_clamp (show u < 2 ^ 31 by omega), eq_true hc25, he5]; done) | (clear hq; simp_all [pm_control, pm_ans, pm_abS, pm_fin, up2_r]; done)) hw5)
      · skip
        refine zx_aload_n (q := 135) dd_Md_control_134 rfl rfl ?_
        refine zx_iload_n (q := 136) dd_Md_control_135 rfl rfl ?_
        refine zx_iload_n (q := 137) dd_Md_control_136 rfl rfl ?_
        refine zx_iload (q := 139) dd_Md_control_137 rfl rfl ?_
        refine zx_sipush (nI 256) (q := 142) dd_Md_control_139 rfl (by decide) ?_
        refine zx_iload (q := 144) dd_Md_control_142 rfl rfl ?_
        refine zx_imul (q := 145) dd_Md_control_144 rfl ?_
        refine zx_iadd (q := 146) dd_Md_control_145 rfl ?_
        refine zx_iload (q := 148) dd_Md_control_146 rfl rfl ?_
        refine zx_iconst (nI 0) (q := 149) dd_Md_control_148 rfl (by decide) ?_
        refine zx_cV5v (q := 152) dd_Md_control_149 rfl cv_Md_control_179 ⟨rfl, rfl⟩ at_m rfl rfl (Nat.le_of_ble_eq_true rfl) ⟨Nat.zero_le _, Nat.zero_le _⟩ (ok_Md_opened hf hc hins hw fun D6 he6 hw6 => ⟨rfl, ?_⟩)
        obtain ⟨t6, fr6, lo6, I6, J6⟩ := D6
        refine zx_goto 248 dd_Md_control_152 (by decide) ?_
        exact zx_vret dd_Md_control_248 rfl (hq _ (by first | (simp [pm_control, pm_ans, pm_abS, pm_fin, up2_r, ec2, ea3, es, cl2, cl3, cls, hc1, he1, hc2, eq_true hc3, he6]; done) | (simp [pm_control, pm_ans, pm_abS, pm_fin_20, hc1, he1, hc2, eq_true hc3, he6]; done) | (clear hq; simp_all [pm_control, pm_ans, pm_abS, pm_fin, up2_r]; done)) hw6)
    · skip
      refine zx_iload (q := 101) dd_Md_control_99 rfl rfl ?_
      refine zx_bipush (nI 32) (q := 103) dd_Md_control_101 rfl (by decide) ?_
      refine zx_icmp_ne 248 (q := 106) dd_Md_control_103 rfl (by decide) (fun hc26 => ?_) (fun hc26 => ?_)
      · skip
        exact zx_vret dd_Md_control_248 rfl (hq _ (by first | (simp [pm_control, pm_ans, pm_abS, pm_fin, up2_r, ec2, ea3, es, cl2, cl3, cls, hc1, he1, eq_true hc2, hc26]; done) | (simp [pm_control, pm_ans, pm_abS, pm_fin_20, hc1, he1, eq_true hc2, hc26]; done) | (clear hq; simp_all [pm_control, pm_ans, pm_abS, pm_fin, up2_r]; done)) hw)
      · skip
        refine zx_aload_n (q := 107) dd_Md_control_106 rfl rfl ?_
        refine zx_iload_n (q := 108) dd_Md_control_107 rfl rfl ?_
        refine zx_iload_n (q := 109) dd_Md_control_108 rfl rfl ?_
        refine zx_iload (q := 111) dd_Md_control_109 rfl rfl ?_
        refine zx_sipush (nI 256) (q := 114) dd_Md_control_111 rfl (by decide) ?_
        refine zx_iload (q := 116) dd_Md_control_114 rfl rfl ?_
        refine zx_imul (q := 117) dd_Md_control_116 rfl ?_
        refine zx_iadd (q := 118) dd_Md_control_117 rfl ?_
        refine zx_iload (q := 120) dd_Md_control_118 rfl rfl ?_
        refine zx_iconst (nI 1) (q := 121) dd_Md_control_120 rfl (by decide) ?_
        refine zx_cV5v (q := 124) dd_Md_control_121 rfl cv_Md_control_179 ⟨rfl, rfl⟩ at_m rfl rfl (Nat.le_of_ble_eq_true rfl) ⟨Nat.zero_le _, Nat.zero_le _⟩ (ok_Md_opened hf hc hins hw fun D7 he7 hw7 => ⟨rfl, ?_⟩)
        obtain ⟨t7, fr7, lo7, I7, J7⟩ := D7
        refine zx_goto 248 dd_Md_control_124 (by decide) ?_
        exact zx_vret dd_Md_control_248 rfl (hq _ (by first | (simp [pm_control, pm_ans, pm_abS, pm_fin, up2_r, ec2, ea3, es, cl2, cl3, cls, hc1, he1, eq_true hc2, eq_true hc26, he7]; done) | (simp [pm_control, pm_ans, pm_abS, pm_fin_20, hc1, he1, eq_true hc2, eq_true hc26, he7]; done) | (clear hq; simp_all [pm_control, pm_ans, pm_abS, pm_fin, up2_r]; done)) hw7)
  · skip
    refine zx_aload_n (q := 56) dd_Md_control_55 rfl rfl ?_
    refine zx_get (q := 59) dd_Md_control_56 rfl fl_Md_45 at_m rfl ?_
    refine zx_iload_n (q := 60) dd_Md_control_59 rfl rfl ?_
    refine zx_iald (q := 61) dd_Md_control_60 rfl at_m11 rfl (by omega) (by decide) ?_
    refine zx_iload_n (q := 62) dd_Md_control_61 rfl rfl ?_
    refine zx_icmp_ne 80 (q := 65) dd_Md_control_62 rfl (by decide) (fun hc27 => ?_) (fun hc27 => ?_)
    · skip
      refine zx_iconst (nI 0) (q := 81) dd_Md_control_80 rfl (by decide) ?_
      refine zx_istore_10 (q := 83) dd_Md_control_81 rfl (by decide) rfl ?_
      refine zx_aload_n (q := 84) dd_Md_control_83 rfl rfl ?_
      refine zx_iload_n (q := 85) dd_Md_control_84 rfl rfl ?_
      refine zx_iload_n (q := 86) dd_Md_control_85 rfl rfl ?_
      refine zx_iconst (nI 0) (q := 87) dd_Md_control_86 rfl (by decide) ?_
      refine zx_cV3i (q := 90) dd_Md_control_87 rfl cv_Md_control_175 ⟨rfl, rfl⟩ at_m rfl rfl (Nat.le_of_ble_eq_true rfl) ⟨Nat.zero_le _, Nat.zero_le _⟩ (ok_Md_find hf hc hins fun r8 he8 => ⟨_, rfl, ?_⟩)
      refine zx_istore_11 (q := 92) dd_Md_control_90 rfl (by decide) rfl ?_
      refine zx_iload_n (q := 93) dd_Md_control_92 rfl rfl ?_
      refine zx_sipush (nI 255) (q := 96) dd_Md_control_93 rfl (by decide) ?_
      refine zx_icmp_ne 127 (q := 99) dd_Md_control_96 rfl (by decide) (fun hc28 => ?_) (fun hc28 => ?_)
      · skip
        refine zx_iload (q := 129) dd_Md_control_127 rfl rfl ?_
        refine zx_bipush (nI 16) (q := 131) dd_Md_control_129 rfl (by decide) ?_
        refine zx_icmp_ne 155 (q := 134) dd_Md_control_131 rfl (by decide) (fun hc29 => ?_) (fun hc29 => ?_)
        · skip
          refine zx_iload (q := 157) dd_Md_control_155 rfl rfl ?_
          refine zx_bipush (nI 17) (q := 159) dd_Md_control_157 rfl (by decide) ?_
          refine zx_icmp_ne 179 (q := 162) dd_Md_control_159 rfl (by decide) (fun hc30 => ?_) (fun hc30 => ?_)
          · skip
            refine zx_iload (q := 181) dd_Md_control_179 rfl rfl ?_
            refine zx_bipush (nI 19) (q := 183) dd_Md_control_181 rfl (by decide) ?_
            refine zx_icmp_ne 201 (q := 186) dd_Md_control_183 rfl (by decide) (fun hc31 => ?_) (fun hc31 => ?_)
            · skip
              refine zx_iload (q := 203) dd_Md_control_201 rfl rfl ?_
              refine zx_sipush (nI 255) (q := 206) dd_Md_control_203 rfl (by decide) ?_
              refine zx_icmp_ne 248 (q := 209) dd_Md_control_206 rfl (by decide) (fun hc32 => ?_) (fun hc32 => ?_)
              · skip
                exact zx_vret dd_Md_control_248 rfl (hq _ (by first | (simp [pm_control, pm_ans, pm_abS, pm_fin, up2_r, ec2, ea3, es, cl2, cl3, cls, hc1, hc27, he8, hc28, hc29, hc30, hc31, hc32]; done) | (simp [pm_control, pm_ans, pm_abS, pm_fin_20, hc1, hc27, he8, hc28, hc29, hc30, hc31, hc32]; done) | (clear hq; simp_all [pm_control, pm_ans, pm_abS, pm_fin, up2_r]; done)) hw)
              · skip
                refine zx_iload (q := 211) dd_Md_control_209 rfl rfl ?_
                refine zx_if_eq 224 (q := 214) dd_Md_control_211 rfl (by decide) (fun hc33 => ?_) (fun hc33 => absurd (by decide) hc33)
                refine zx_iload (q := 226) dd_Md_control_224 rfl rfl ?_
                refine zx_if_lt 248 (q := 229) dd_Md_control_226 rfl (by decide) (fun hc34 => ?_) (fun hc34 => ?_)
                · skip
                  exact zx_vret dd_Md_control_248 rfl (hq _ (by first | (simp [pm_control, pm_ans, pm_abS, pm_fin, up2_r, ec2, ea3, es, cl2, cl3, cls, hc1, hc27, he8, hc28, hc29, hc30, hc31, eq_true hc32, hc34]; done) | (simp [pm_control, pm_ans, pm_abS, pm_fin_20, hc1, hc27, he8, hc28, hc29, hc30, hc31, eq_true hc32, hc34]; done) | (clear hq; simp_all [pm_control, pm_ans, pm_abS, pm_fin, up2_r]; done)) hw)
                · skip
                  obtain ⟨u, hu1, hu2, hu3⟩ := pm_findK_n (I := I) c (2 * f) (he8 ▸ hc34)
                  have hru : r8 = nI u := he8.symm.trans hu3
                  subst hru
                  refine zx_aload_n (q := 230) dd_Md_control_229 rfl rfl ?_
                  refine zx_get (q := 233) dd_Md_control_230 rfl fl_Md_72 at_m rfl ?_
                  refine zx_iload (q := 235) dd_Md_control_233 rfl rfl ?_
                  refine zx_iald (q := 236) dd_Md_control_235 rfl at_m20 rfl (by omega) (by decide) ?_
                  refine zx_iload (q := 238) dd_Md_control_236 rfl rfl ?_
                  refine zx_icmp_ne 248 (q := 241) dd_Md_control_238 rfl (by decide) (fun hc35 => ?_) (fun hc35 => ?_)
                  · skip
                    exact zx_vret dd_Md_control_248 rfl (hq _ (by first | (simp [pm_control, pm_ans, pm_abS, pm_fin, up2_r, ec2, ea3, es, cl2, cl3, cls, hc1, hc27, he8, hc28, hc29, hc30, hc31, eq_true hc32, hc34, nI_clamp (show u < 2 ^ 31 by omega), hc35]; done) | (simp [pm_control, pm_ans, pm_abS, pm_fin_20, hc1, hc27, he8, hc28, hc29, hc30, hc31, eq_true hc32, hc34, nI_clamp (show u < 2 ^ 31 by omega), hc35]; done) | (clear hq; simp_all [pm_control, pm_ans, pm_abS, pm_fin, up2_r]; done)) hw)
                  · skip
                    refine zx_aload_n (q := 242) dd_Md_control_241 rfl rfl ?_
                    refine zx_iload_n (q := 243) dd_Md_control_242 rfl rfl ?_
                    refine zx_iload (q := 245) dd_Md_control_243 rfl rfl ?_
                    refine zx_cV2v (q := 248) dd_Md_control_245 rfl cv_Md_control_191 ⟨rfl, rfl⟩ at_m rfl rfl (Nat.le_of_ble_eq_true rfl) ⟨Nat.zero_le _, Nat.zero_le _⟩ (ok_Md_close hf (by omega) hw fun D9 he9 hw9 => ⟨rfl, ?_⟩)
                    obtain ⟨t9, fr9, lo9, I9, J9⟩ := D9
                    exact zx_vret dd_Md_control_248 rfl (hq _ (by first | (simp [pm_control, pm_ans, pm_abS, pm_fin, up2_r, ec2, ea3, es, cl2, cl3, cls, hc1, hc27, he8, hc28, hc29, hc30, hc31, eq_true hc32, hc34, nI_clamp (show u < 2 ^ 31 by omega), eq_true hc35, he9]; done) | (simp [pm_control, pm_ans, pm_abS, pm_fin_20, hc1, hc27, he8, hc28, hc29, hc30, hc31, eq_true hc32, hc34, nI_clamp (show u < 2 ^ 31 by omega), eq_true hc35, he9]; done) | (clear hq; simp_all [pm_control, pm_ans, pm_abS, pm_fin, up2_r]; done)) hw9)
            · skip
              refine zx_iload (q := 188) dd_Md_control_186 rfl rfl ?_
              refine zx_if_eq 201 (q := 191) dd_Md_control_188 rfl (by decide) (fun hc36 => ?_) (fun hc36 => absurd (by decide) hc36)
              refine zx_iload (q := 203) dd_Md_control_201 rfl rfl ?_
              refine zx_sipush (nI 255) (q := 206) dd_Md_control_203 rfl (by decide) ?_
              refine zx_icmp_ne 248 (q := 209) dd_Md_control_206 rfl (by decide) (fun hc37 => ?_) (fun hc37 => ?_)
              · skip
                exact zx_vret dd_Md_control_248 rfl (hq _ (by first | (simp [pm_control, pm_ans, pm_abS, pm_fin, up2_r, ec2, ea3, es, cl2, cl3, cls, hc1, hc27, he8, hc28, hc29, hc30, eq_true hc31, hc37]; done) | (simp [pm_control, pm_ans, pm_abS, pm_fin_20, hc1, hc27, he8, hc28, hc29, hc30, eq_true hc31, hc37]; done) | (clear hq; simp_all [pm_control, pm_ans, pm_abS, pm_fin, up2_r]; done)) hw)
              · skip
                refine zx_iload (q := 211) dd_Md_control_209 rfl rfl ?_
                refine zx_if_eq 224 (q := 214) dd_Md_control_211 rfl (by decide) (fun hc38 => ?_) (fun hc38 => absurd (by decide) hc38)
                refine zx_iload (q := 226) dd_Md_control_224 rfl rfl ?_
                refine zx_if_lt 248 (q := 229) dd_Md_control_226 rfl (by decide) (fun hc39 => ?_) (fun hc39 => ?_)
                · skip
                  exact zx_vret dd_Md_control_248 rfl (hq _ (by first | (simp [pm_control, pm_ans, pm_abS, pm_fin, up2_r, ec2, ea3, es, cl2, cl3, cls, hc1, hc27, he8, hc28, hc29, hc30, eq_true hc31, eq_true hc37, hc39]; done) | (simp [pm_control, pm_ans, pm_abS, pm_fin_20, hc1, hc27, he8, hc28, hc29, hc30, eq_true hc31, eq_true hc37, hc39]; done) | (clear hq; simp_all [pm_control, pm_ans, pm_abS, pm_fin, up2_r]; done)) hw)
                · skip
                  obtain ⟨u, hu1, hu2, hu3⟩ := pm_findK_n (I := I) c (2 * f) (he8 ▸ hc39)
                  have hru : r8 = nI u := he8.symm.trans hu3
                  subst hru
                  refine zx_aload_n (q := 230) dd_Md_control_229 rfl rfl ?_
                  refine zx_get (q := 233) dd_Md_control_230 rfl fl_Md_72 at_m rfl ?_
                  refine zx_iload (q := 235) dd_Md_control_233 rfl rfl ?_
                  refine zx_iald (q := 236) dd_Md_control_235 rfl at_m20 rfl (by omega) (by decide) ?_
                  refine zx_iload (q := 238) dd_Md_control_236 rfl rfl ?_
                  refine zx_icmp_ne 248 (q := 241) dd_Md_control_238 rfl (by decide) (fun hc40 => ?_) (fun hc40 => ?_)
                  · skip
                    exact zx_vret dd_Md_control_248 rfl (hq _ (by first | (simp [pm_control, pm_ans, pm_abS, pm_fin, up2_r, ec2, ea3, es, cl2, cl3, cls, hc1, hc27, he8, hc28, hc29, hc30, eq_true hc31, eq_true hc37, hc39, nI_clamp (show u < 2 ^ 31 by omega), hc40]; done) | (simp [pm_control, pm_ans, pm_abS, pm_fin_20, hc1, hc27, he8, hc28, hc29, hc30, eq_true hc31, eq_true hc37, hc39, nI_clamp (show u < 2 ^ 31 by omega), hc40]; done) | (clear hq; simp_all [pm_control, pm_ans, pm_abS, pm_fin, up2_r]; done)) hw)
                  · skip
                    refine zx_aload_n (q := 242) dd_Md_control_241 rfl rfl ?_
                    refine zx_iload_n (q := 243) dd_Md_control_242 rfl rfl ?_
                    refine zx_iload (q := 245) dd_Md_control_243 rfl rfl ?_
                    refine zx_cV2v (q := 248) dd_Md_control_245 rfl cv_Md_control_191 ⟨rfl, rfl⟩ at_m rfl rfl (Nat.le_of_ble_eq_true rfl) ⟨Nat.zero_le _, Nat.zero_le _⟩ (ok_Md_close hf (by omega) hw fun D10 he10 hw10 => ⟨rfl, ?_⟩)
                    obtain ⟨t10, fr10, lo10, I10, J10⟩ := D10
                    exact zx_vret dd_Md_control_248 rfl (hq _ (by first | (simp [pm_control, pm_ans, pm_abS, pm_fin, up2_r, ec2, ea3, es, cl2, cl3, cls, hc1, hc27, he8, hc28, hc29, hc30, eq_true hc31, eq_true hc37, hc39, nI_clamp (show u < 2 ^ 31 by omega), eq_true hc40, he10]; done) | (simp [pm_control, pm_ans, pm_abS, pm_fin_20, hc1, hc27, he8, hc28, hc29, hc30, eq_true hc31, eq_true hc37, hc39, nI_clamp (show u < 2 ^ 31 by omega), eq_true hc40, he10]; done) | (clear hq; simp_all [pm_control, pm_ans, pm_abS, pm_fin, up2_r]; done)) hw10)
          · skip
            refine zx_iload (q := 164) dd_Md_control_162 rfl rfl ?_
            refine zx_if_eq 179 (q := 167) dd_Md_control_164 rfl (by decide) (fun hc41 => ?_) (fun hc41 => absurd (by decide) hc41)
            refine zx_iload (q := 181) dd_Md_control_179 rfl rfl ?_
            refine zx_bipush (nI 19) (q := 183) dd_Md_control_181 rfl (by decide) ?_
            refine zx_icmp_ne 201 (q := 186) dd_Md_control_183 rfl (by decide) (fun hc42 => ?_) (fun hc42 => ?_)
            · skip
              refine zx_iload (q := 203) dd_Md_control_201 rfl rfl ?_
              refine zx_sipush (nI 255) (q := 206) dd_Md_control_203 rfl (by decide) ?_
              refine zx_icmp_ne 248 (q := 209) dd_Md_control_206 rfl (by decide) (fun hc43 => ?_) (fun hc43 => ?_)
              · skip
                exact zx_vret dd_Md_control_248 rfl (hq _ (by first | (simp [pm_control, pm_ans, pm_abS, pm_fin, up2_r, ec2, ea3, es, cl2, cl3, cls, hc1, hc27, he8, hc28, hc29, eq_true hc30, hc42, hc43]; done) | (simp [pm_control, pm_ans, pm_abS, pm_fin_20, hc1, hc27, he8, hc28, hc29, eq_true hc30, hc42, hc43]; done) | (clear hq; simp_all [pm_control, pm_ans, pm_abS, pm_fin, up2_r]; done)) hw)
              · skip
                refine zx_iload (q := 211) dd_Md_control_209 rfl rfl ?_
                refine zx_if_eq 224 (q := 214) dd_Md_control_211 rfl (by decide) (fun hc44 => ?_) (fun hc44 => absurd (by decide) hc44)
                refine zx_iload (q := 226) dd_Md_control_224 rfl rfl ?_
                refine zx_if_lt 248 (q := 229) dd_Md_control_226 rfl (by decide) (fun hc45 => ?_) (fun hc45 => ?_)
                · skip
                  exact zx_vret dd_Md_control_248 rfl (hq _ (by first | (simp [pm_control, pm_ans, pm_abS, pm_fin, up2_r, ec2, ea3, es, cl2, cl3, cls, hc1, hc27, he8, hc28, hc29, eq_true hc30, hc42, eq_true hc43, hc45]; done) | (simp [pm_control, pm_ans, pm_abS, pm_fin_20, hc1, hc27, he8, hc28, hc29, eq_true hc30, hc42, eq_true hc43, hc45]; done) | (clear hq; simp_all [pm_control, pm_ans, pm_abS, pm_fin, up2_r]; done)) hw)
                · skip
                  obtain ⟨u, hu1, hu2, hu3⟩ := pm_findK_n (I := I) c (2 * f) (he8 ▸ hc45)
                  have hru : r8 = nI u := he8.symm.trans hu3
                  subst hru
                  refine zx_aload_n (q := 230) dd_Md_control_229 rfl rfl ?_
                  refine zx_get (q := 233) dd_Md_control_230 rfl fl_Md_72 at_m rfl ?_
                  refine zx_iload (q := 235) dd_Md_control_233 rfl rfl ?_
                  refine zx_iald (q := 236) dd_Md_control_235 rfl at_m20 rfl (by omega) (by decide) ?_
                  refine zx_iload (q := 238) dd_Md_control_236 rfl rfl ?_
                  refine zx_icmp_ne 248 (q := 241) dd_Md_control_238 rfl (by decide) (fun hc46 => ?_) (fun hc46 => ?_)
                  · skip
                    exact zx_vret dd_Md_control_248 rfl (hq _ (by first | (simp [pm_control, pm_ans, pm_abS, pm_fin, up2_r, ec2, ea3, es, cl2, cl3, cls, hc1, hc27, he8, hc28, hc29, eq_true hc30, hc42, eq_true hc43, hc45, nI_clamp (show u < 2 ^ 31 by omega), hc46]; done) | (simp [pm_control, pm_ans, pm_abS, pm_fin_20, hc1, hc27, he8, hc28, hc29, eq_true hc30, hc42, eq_true hc43, hc45, nI_clamp (show u < 2 ^ 31 by omega), hc46]; done) | (clear hq; simp_all [pm_control, pm_ans, pm_abS, pm_fin, up2_r]; done)) hw)
                  · skip
                    refine zx_aload_n (q := 242) dd_Md_control_241 rfl rfl ?_
                    refine zx_iload_n (q := 243) dd_Md_control_242 rfl rfl ?_
                    refine zx_iload (q := 245) dd_Md_control_243 rfl rfl ?_
                    refine zx_cV2v (q := 248) dd_Md_control_245 rfl cv_Md_control_191 ⟨rfl, rfl⟩ at_m rfl rfl (Nat.le_of_ble_eq_true rfl) ⟨Nat.zero_le _, Nat.zero_le _⟩ (ok_Md_close hf (by omega) hw fun D11 he11 hw11 => ⟨rfl, ?_⟩)
                    obtain ⟨t11, fr11, lo11, I11, J11⟩ := D11
                    exact zx_vret dd_Md_control_248 rfl (hq _ (by first | (simp [pm_control, pm_ans, pm_abS, pm_fin, up2_r, ec2, ea3, es, cl2, cl3, cls, hc1, hc27, he8, hc28, hc29, eq_true hc30, hc42, eq_true hc43, hc45, nI_clamp (show u < 2 ^ 31 by omega), eq_true hc46, he11]; done) | (simp [pm_control, pm_ans, pm_abS, pm_fin_20, hc1, hc27, he8, hc28, hc29, eq_true hc30, hc42, eq_true hc43, hc45, nI_clamp (show u < 2 ^ 31 by omega), eq_true hc46, he11]; done) | (clear hq; simp_all [pm_control, pm_ans, pm_abS, pm_fin, up2_r]; done)) hw11)
            · skip
              refine zx_iload (q := 188) dd_Md_control_186 rfl rfl ?_
              refine zx_if_eq 201 (q := 191) dd_Md_control_188 rfl (by decide) (fun hc47 => ?_) (fun hc47 => absurd (by decide) hc47)
              refine zx_iload (q := 203) dd_Md_control_201 rfl rfl ?_
              refine zx_sipush (nI 255) (q := 206) dd_Md_control_203 rfl (by decide) ?_
              refine zx_icmp_ne 248 (q := 209) dd_Md_control_206 rfl (by decide) (fun hc48 => ?_) (fun hc48 => ?_)
              · skip
                exact zx_vret dd_Md_control_248 rfl (hq _ (by first | (simp [pm_control, pm_ans, pm_abS, pm_fin, up2_r, ec2, ea3, es, cl2, cl3, cls, hc1, hc27, he8, hc28, hc29, eq_true hc30, eq_true hc42, hc48]; done) | (simp [pm_control, pm_ans, pm_abS, pm_fin_20, hc1, hc27, he8, hc28, hc29, eq_true hc30, eq_true hc42, hc48]; done) | (clear hq; simp_all [pm_control, pm_ans, pm_abS, pm_fin, up2_r]; done)) hw)
              · skip
                refine zx_iload (q := 211) dd_Md_control_209 rfl rfl ?_
                refine zx_if_eq 224 (q := 214) dd_Md_control_211 rfl (by decide) (fun hc49 => ?_) (fun hc49 => absurd (by decide) hc49)
                refine zx_iload (q := 226) dd_Md_control_224 rfl rfl ?_
                refine zx_if_lt 248 (q := 229) dd_Md_control_226 rfl (by decide) (fun hc50 => ?_) (fun hc50 => ?_)
                · skip
                  exact zx_vret dd_Md_control_248 rfl (hq _ (by first | (simp [pm_control, pm_ans, pm_abS, pm_fin, up2_r, ec2, ea3, es, cl2, cl3, cls, hc1, hc27, he8, hc28, hc29, eq_true hc30, eq_true hc42, eq_true hc48, hc50]; done) | (simp [pm_control, pm_ans, pm_abS, pm_fin_20, hc1, hc27, he8, hc28, hc29, eq_true hc30, eq_true hc42, eq_true hc48, hc50]; done) | (clear hq; simp_all [pm_control, pm_ans, pm_abS, pm_fin, up2_r]; done)) hw)
                · skip
                  obtain ⟨u, hu1, hu2, hu3⟩ := pm_findK_n (I := I) c (2 * f) (he8 ▸ hc50)
                  have hru : r8 = nI u := he8.symm.trans hu3
                  subst hru
                  refine zx_aload_n (q := 230) dd_Md_control_229 rfl rfl ?_
                  refine zx_get (q := 233) dd_Md_control_230 rfl fl_Md_72 at_m rfl ?_
                  refine zx_iload (q := 235) dd_Md_control_233 rfl rfl ?_
                  refine zx_iald (q := 236) dd_Md_control_235 rfl at_m20 rfl (by omega) (by decide) ?_
                  refine zx_iload (q := 238) dd_Md_control_236 rfl rfl ?_
                  refine zx_icmp_ne 248 (q := 241) dd_Md_control_238 rfl (by decide) (fun hc51 => ?_) (fun hc51 => ?_)
                  · skip
                    exact zx_vret dd_Md_control_248 rfl (hq _ (by first | (simp [pm_control, pm_ans, pm_abS, pm_fin, up2_r, ec2, ea3, es, cl2, cl3, cls, hc1, hc27, he8, hc28, hc29, eq_true hc30, eq_true hc42, eq_true hc48, hc50, nI_clamp (show u < 2 ^ 31 by omega), hc51]; done) | (simp [pm_control, pm_ans, pm_abS, pm_fin_20, hc1, hc27, he8, hc28, hc29, eq_true hc30, eq_true hc42, eq_true hc48, hc50, nI_clamp (show u < 2 ^ 31 by omega), hc51]; done) | (clear hq; simp_all [pm_control, pm_ans, pm_abS, pm_fin, up2_r]; done)) hw)
                  · skip
                    refine zx_aload_n (q := 242) dd_Md_control_241 rfl rfl ?_
                    refine zx_iload_n (q := 243) dd_Md_control_242 rfl rfl ?_
                    refine zx_iload (q := 245) dd_Md_control_243 rfl rfl ?_
                    refine zx_cV2v (q := 248) dd_Md_control_245 rfl cv_Md_control_191 ⟨rfl, rfl⟩ at_m rfl rfl (Nat.le_of_ble_eq_true rfl) ⟨Nat.zero_le _, Nat.zero_le _⟩ (ok_Md_close hf (by omega) hw fun D12 he12 hw12 => ⟨rfl, ?_⟩)
                    obtain ⟨t12, fr12, lo12, I12, J12⟩ := D12
                    exact zx_vret dd_Md_control_248 rfl (hq _ (by first | (simp [pm_control, pm_ans, pm_abS, pm_fin, up2_r, ec2, ea3, es, cl2, cl3, cls, hc1, hc27, he8, hc28, hc29, eq_true hc30, eq_true hc42, eq_true hc48, hc50, nI_clamp (show u < 2 ^ 31 by omega), eq_true hc51, he12]; done) | (simp [pm_control, pm_ans, pm_abS, pm_fin_20, hc1, hc27, he8, hc28, hc29, eq_true hc30, eq_true hc42, eq_true hc48, hc50, nI_clamp (show u < 2 ^ 31 by omega), eq_true hc51, he12]; done) | (clear hq; simp_all [pm_control, pm_ans, pm_abS, pm_fin, up2_r]; done)) hw12)
        · skip
          refine zx_aload_n (q := 135) dd_Md_control_134 rfl rfl ?_
          refine zx_iload_n (q := 136) dd_Md_control_135 rfl rfl ?_
          refine zx_iload_n (q := 137) dd_Md_control_136 rfl rfl ?_
          refine zx_iload (q := 139) dd_Md_control_137 rfl rfl ?_
          refine zx_sipush (nI 256) (q := 142) dd_Md_control_139 rfl (by decide) ?_
          refine zx_iload (q := 144) dd_Md_control_142 rfl rfl ?_
          refine zx_imul (q := 145) dd_Md_control_144 rfl ?_
          refine zx_iadd (q := 146) dd_Md_control_145 rfl ?_
          refine zx_iload (q := 148) dd_Md_control_146 rfl rfl ?_
          refine zx_iconst (nI 0) (q := 149) dd_Md_control_148 rfl (by decide) ?_
          refine zx_cV5v (q := 152) dd_Md_control_149 rfl cv_Md_control_179 ⟨rfl, rfl⟩ at_m rfl rfl (Nat.le_of_ble_eq_true rfl) ⟨Nat.zero_le _, Nat.zero_le _⟩ (ok_Md_opened hf hc hins hw fun D13 he13 hw13 => ⟨rfl, ?_⟩)
          obtain ⟨t13, fr13, lo13, I13, J13⟩ := D13
          refine zx_goto 248 dd_Md_control_152 (by decide) ?_
          exact zx_vret dd_Md_control_248 rfl (hq _ (by first | (simp [pm_control, pm_ans, pm_abS, pm_fin, up2_r, ec2, ea3, es, cl2, cl3, cls, hc1, hc27, he8, hc28, eq_true hc29, he13]; done) | (simp [pm_control, pm_ans, pm_abS, pm_fin_20, hc1, hc27, he8, hc28, eq_true hc29, he13]; done) | (clear hq; simp_all [pm_control, pm_ans, pm_abS, pm_fin, up2_r]; done)) hw13)
      · skip
        refine zx_iload (q := 101) dd_Md_control_99 rfl rfl ?_
        refine zx_bipush (nI 32) (q := 103) dd_Md_control_101 rfl (by decide) ?_
        refine zx_icmp_ne 248 (q := 106) dd_Md_control_103 rfl (by decide) (fun hc52 => ?_) (fun hc52 => ?_)
        · skip
          exact zx_vret dd_Md_control_248 rfl (hq _ (by first | (simp [pm_control, pm_ans, pm_abS, pm_fin, up2_r, ec2, ea3, es, cl2, cl3, cls, hc1, hc27, he8, eq_true hc28, hc52]; done) | (simp [pm_control, pm_ans, pm_abS, pm_fin_20, hc1, hc27, he8, eq_true hc28, hc52]; done) | (clear hq; simp_all [pm_control, pm_ans, pm_abS, pm_fin, up2_r]; done)) hw)
        · skip
          refine zx_aload_n (q := 107) dd_Md_control_106 rfl rfl ?_
          refine zx_iload_n (q := 108) dd_Md_control_107 rfl rfl ?_
          refine zx_iload_n (q := 109) dd_Md_control_108 rfl rfl ?_
          refine zx_iload (q := 111) dd_Md_control_109 rfl rfl ?_
          refine zx_sipush (nI 256) (q := 114) dd_Md_control_111 rfl (by decide) ?_
          refine zx_iload (q := 116) dd_Md_control_114 rfl rfl ?_
          refine zx_imul (q := 117) dd_Md_control_116 rfl ?_
          refine zx_iadd (q := 118) dd_Md_control_117 rfl ?_
          refine zx_iload (q := 120) dd_Md_control_118 rfl rfl ?_
          refine zx_iconst (nI 1) (q := 121) dd_Md_control_120 rfl (by decide) ?_
          refine zx_cV5v (q := 124) dd_Md_control_121 rfl cv_Md_control_179 ⟨rfl, rfl⟩ at_m rfl rfl (Nat.le_of_ble_eq_true rfl) ⟨Nat.zero_le _, Nat.zero_le _⟩ (ok_Md_opened hf hc hins hw fun D14 he14 hw14 => ⟨rfl, ?_⟩)
          obtain ⟨t14, fr14, lo14, I14, J14⟩ := D14
          refine zx_goto 248 dd_Md_control_124 (by decide) ?_
          exact zx_vret dd_Md_control_248 rfl (hq _ (by first | (simp [pm_control, pm_ans, pm_abS, pm_fin, up2_r, ec2, ea3, es, cl2, cl3, cls, hc1, hc27, he8, eq_true hc28, eq_true hc52, he14]; done) | (simp [pm_control, pm_ans, pm_abS, pm_fin_20, hc1, hc27, he8, eq_true hc28, eq_true hc52, he14]; done) | (clear hq; simp_all [pm_control, pm_ans, pm_abS, pm_fin, up2_r]; done)) hw14)
    · skip
      refine zx_aload_n (q := 66) dd_Md_control_65 rfl rfl ?_
      refine zx_get (q := 69) dd_Md_control_66 rfl fl_Md_48 at_m rfl ?_
      refine zx_iload_n (q := 70) dd_Md_control_69 rfl rfl ?_
      refine zx_iald (q := 71) dd_Md_control_70 rfl at_m12 rfl (by omega) (by decide) ?_
      refine zx_iload (q := 73) dd_Md_control_71 rfl rfl ?_
      refine zx_icmp_ne 80 (q := 76) dd_Md_control_73 rfl (by decide) (fun hc53 => ?_) (fun hc53 => ?_)
      · skip
        refine zx_iconst (nI 0) (q := 81) dd_Md_control_80 rfl (by decide) ?_
        refine zx_istore_10 (q := 83) dd_Md_control_81 rfl (by decide) rfl ?_
        refine zx_aload_n (q := 84) dd_Md_control_83 rfl rfl ?_
        refine zx_iload_n (q := 85) dd_Md_control_84 rfl rfl ?_
        refine zx_iload_n (q := 86) dd_Md_control_85 rfl rfl ?_
        refine zx_iconst (nI 0) (q := 87) dd_Md_control_86 rfl (by decide) ?_
        refine zx_cV3i (q := 90) dd_Md_control_87 rfl cv_Md_control_175 ⟨rfl, rfl⟩ at_m rfl rfl (Nat.le_of_ble_eq_true rfl) ⟨Nat.zero_le _, Nat.zero_le _⟩ (ok_Md_find hf hc hins fun r15 he15 => ⟨_, rfl, ?_⟩)
        refine zx_istore_11 (q := 92) dd_Md_control_90 rfl (by decide) rfl ?_
        refine zx_iload_n (q := 93) dd_Md_control_92 rfl rfl ?_
        refine zx_sipush (nI 255) (q := 96) dd_Md_control_93 rfl (by decide) ?_
        refine zx_icmp_ne 127 (q := 99) dd_Md_control_96 rfl (by decide) (fun hc54 => ?_) (fun hc54 => ?_)
        · skip
          refine zx_iload (q := 129) dd_Md_control_127 rfl rfl ?_
          refine zx_bipush (nI 16) (q := 131) dd_Md_control_129 rfl (by decide) ?_
          refine zx_icmp_ne 155 (q := 134) dd_Md_control_131 rfl (by decide) (fun hc55 => ?_) (fun hc55 => ?_)
          · skip
            refine zx_iload (q := 157) dd_Md_control_155 rfl rfl ?_
            refine zx_bipush (nI 17) (q := 159) dd_Md_control_157 rfl (by decide) ?_
            refine zx_icmp_ne 179 (q := 162) dd_Md_control_159 rfl (by decide) (fun hc56 => ?_) (fun hc56 => ?_)
            · skip
              refine zx_iload (q := 181) dd_Md_control_179 rfl rfl ?_
              refine zx_bipush (nI 19) (q := 183) dd_Md_control_181 rfl (by decide) ?_
              refine zx_icmp_ne 201 (q := 186) dd_Md_control_183 rfl (by decide) (fun hc57 => ?_) (fun hc57 => ?_)
              · skip
                refine zx_iload (q := 203) dd_Md_control_201 rfl rfl ?_
                refine zx_sipush (nI 255) (q := 206) dd_Md_control_203 rfl (by decide) ?_
                refine zx_icmp_ne 248 (q := 209) dd_Md_control_206 rfl (by decide) (fun hc58 => ?_) (fun hc58 => ?_)
                · skip
                  exact zx_vret dd_Md_control_248 rfl (hq _ (by first | (simp [pm_control, pm_ans, pm_abS, pm_fin, up2_r, ec2, ea3, es, cl2, cl3, cls, hc1, eq_true hc27, hc53, he15, hc54, hc55, hc56, hc57, hc58]; done) | (simp [pm_control, pm_ans, pm_abS, pm_fin_20, hc1, eq_true hc27, hc53, he15, hc54, hc55, hc56, hc57, hc58]; done) | (clear hq; simp_all [pm_control, pm_ans, pm_abS, pm_fin, up2_r]; done)) hw)
                · skip
                  refine zx_iload (q := 211) dd_Md_control_209 rfl rfl ?_
                  refine zx_if_eq 224 (q := 214) dd_Md_control_211 rfl (by decide) (fun hc59 => ?_) (fun hc59 => absurd (by decide) hc59)
                  refine zx_iload (q := 226) dd_Md_control_224 rfl rfl ?_
                  refine zx_if_lt 248 (q := 229) dd_Md_control_226 rfl (by decide) (fun hc60 => ?_) (fun hc60 => ?_)
                  · skip
                    exact zx_vret dd_Md_control_248 rfl (hq _ (by first | (simp [pm_control, pm_ans, pm_abS, pm_fin, up2_r, ec2, ea3, es, cl2, cl3, cls, hc1, eq_true hc27, hc53, he15, hc54, hc55, hc56, hc57, eq_true hc58, hc60]; done) | (simp [pm_control, pm_ans, pm_abS, pm_fin_20, hc1, eq_true hc27, hc53, he15, hc54, hc55, hc56, hc57, eq_true hc58, hc60]; done) | (clear hq; simp_all [pm_control, pm_ans, pm_abS, pm_fin, up2_r]; done)) hw)
                  · skip
                    obtain ⟨u, hu1, hu2, hu3⟩ := pm_findK_n (I := I) c (2 * f) (he15 ▸ hc60)
                    have hru : r15 = nI u := he15.symm.trans hu3
                    subst hru
                    refine zx_aload_n (q := 230) dd_Md_control_229 rfl rfl ?_
                    refine zx_get (q := 233) dd_Md_control_230 rfl fl_Md_72 at_m rfl ?_
                    refine zx_iload (q := 235) dd_Md_control_233 rfl rfl ?_
                    refine zx_iald (q := 236) dd_Md_control_235 rfl at_m20 rfl (by omega) (by decide) ?_
                    refine zx_iload (q := 238) dd_Md_control_236 rfl rfl ?_
                    refine zx_icmp_ne 248 (q := 241) dd_Md_control_238 rfl (by decide) (fun hc61 => ?_) (fun hc61 => ?_)
                    · skip
                      exact zx_vret dd_Md_control_248 rfl (hq _ (by first | (simp [pm_control, pm_ans, pm_abS, pm_fin, up2_r, ec2, ea3, es, cl2, cl3, cls, hc1, eq_true hc27, hc53, he15, hc54, hc55, hc56, hc57, eq_true hc58, hc60, nI_clamp (show u < 2 ^ 31 by omega), hc61]; done) | (simp [pm_control, pm_ans, pm_abS, pm_fin_20, hc1, eq_true hc27, hc53, he15, hc54, hc55, hc56, hc57, eq_true hc58, hc60, nI_clamp (show u < 2 ^ 31 by omega), hc61]; done) | (clear hq; simp_all [pm_control, pm_ans, pm_abS, pm_fin, up2_r]; done)) hw)
                    · skip
                      refine zx_aload_n (q := 242) dd_Md_control_241 rfl rfl ?_
                      refine zx_iload_n (q := 243) dd_Md_control_242 rfl rfl ?_
                      refine zx_iload (q := 245) dd_Md_control_243 rfl rfl ?_
                      refine zx_cV2v (q := 248) dd_Md_control_245 rfl cv_Md_control_191 ⟨rfl, rfl⟩ at_m rfl rfl (Nat.le_of_ble_eq_true rfl) ⟨Nat.zero_le _, Nat.zero_le _⟩ (ok_Md_close hf (by omega) hw fun D16 he16 hw16 => ⟨rfl, ?_⟩)
                      obtain ⟨t16, fr16, lo16, I16, J16⟩ := D16
                      exact zx_vret dd_Md_control_248 rfl (hq _ (by first | (simp [pm_control, pm_ans, pm_abS, pm_fin, up2_r, ec2, ea3, es, cl2, cl3, cls, hc1, eq_true hc27, hc53, he15, hc54, hc55, hc56, hc57, eq_true hc58, hc60, nI_clamp (show u < 2 ^ 31 by omega), eq_true hc61, he16]; done) | (simp [pm_control, pm_ans, pm_abS, pm_fin_20, hc1, eq_true hc27, hc53, he15, hc54, hc55, hc56, hc57, eq_true hc58, hc60, nI_clamp (show u < 2 ^ 31 by omega), eq_true hc61, he16]; done) | (clear hq; simp_all [pm_control, pm_ans, pm_abS, pm_fin, up2_r]; done)) hw16)
              · skip
                refine zx_iload (q := 188) dd_Md_control_186 rfl rfl ?_
                refine zx_if_eq 201 (q := 191) dd_Md_control_188 rfl (by decide) (fun hc62 => ?_) (fun hc62 => absurd (by decide) hc62)
                refine zx_iload (q := 203) dd_Md_control_201 rfl rfl ?_
                refine zx_sipush (nI 255) (q := 206) dd_Md_control_203 rfl (by decide) ?_
                refine zx_icmp_ne 248 (q := 209) dd_Md_control_206 rfl (by decide) (fun hc63 => ?_) (fun hc63 => ?_)
                · skip
                  exact zx_vret dd_Md_control_248 rfl (hq _ (by first | (simp [pm_control, pm_ans, pm_abS, pm_fin, up2_r, ec2, ea3, es, cl2, cl3, cls, hc1, eq_true hc27, hc53, he15, hc54, hc55, hc56, eq_true hc57, hc63]; done) | (simp [pm_control, pm_ans, pm_abS, pm_fin_20, hc1, eq_true hc27, hc53, he15, hc54, hc55, hc56, eq_true hc57, hc63]; done) | (clear hq; simp_all [pm_control, pm_ans, pm_abS, pm_fin, up2_r]; done)) hw)
                · skip
                  refine zx_iload (q := 211) dd_Md_control_209 rfl rfl ?_
                  refine zx_if_eq 224 (q := 214) dd_Md_control_211 rfl (by decide) (fun hc64 => ?_) (fun hc64 => absurd (by decide) hc64)
                  refine zx_iload (q := 226) dd_Md_control_224 rfl rfl ?_
                  refine zx_if_lt 248 (q := 229) dd_Md_control_226 rfl (by decide) (fun hc65 => ?_) (fun hc65 => ?_)
                  · skip
                    exact zx_vret dd_Md_control_248 rfl (hq _ (by first | (simp [pm_control, pm_ans, pm_abS, pm_fin, up2_r, ec2, ea3, es, cl2, cl3, cls, hc1, eq_true hc27, hc53, he15, hc54, hc55, hc56, eq_true hc57, eq_true hc63, hc65]; done) | (simp [pm_control, pm_ans, pm_abS, pm_fin_20, hc1, eq_true hc27, hc53, he15, hc54, hc55, hc56, eq_true hc57, eq_true hc63, hc65]; done) | (clear hq; simp_all [pm_control, pm_ans, pm_abS, pm_fin, up2_r]; done)) hw)
                  · skip
                    obtain ⟨u, hu1, hu2, hu3⟩ := pm_findK_n (I := I) c (2 * f) (he15 ▸ hc65)
                    have hru : r15 = nI u := he15.symm.trans hu3
                    subst hru
                    refine zx_aload_n (q := 230) dd_Md_control_229 rfl rfl ?_
                    refine zx_get (q := 233) dd_Md_control_230 rfl fl_Md_72 at_m rfl ?_
                    refine zx_iload (q := 235) dd_Md_control_233 rfl rfl ?_
                    refine zx_iald (q := 236) dd_Md_control_235 rfl at_m20 rfl (by omega) (by decide) ?_
                    refine zx_iload (q := 238) dd_Md_control_236 rfl rfl ?_
                    refine zx_icmp_ne 248 (q := 241) dd_Md_control_238 rfl (by decide) (fun hc66 => ?_) (fun hc66 => ?_)
                    · skip
                      exact zx_vret dd_Md_control_248 rfl (hq _ (by first | (simp [pm_control, pm_ans, pm_abS, pm_fin, up2_r, ec2, ea3, es, cl2, cl3, cls, hc1, eq_true hc27, hc53, he15, hc54, hc55, hc56, eq_true hc57, eq_true hc63, hc65, nI_clamp (show u < 2 ^ 31 by omega), hc66]; done) | (simp [pm_control, pm_ans, pm_abS, pm_fin_20, hc1, eq_true hc27, hc53, he15, hc54, hc55, hc56, eq_true hc57, eq_true hc63, hc65, nI_clamp (show u < 2 ^ 31 by omega), hc66]; done) | (clear hq; simp_all [pm_control, pm_ans, pm_abS, pm_fin, up2_r]; done)) hw)
                    · skip
                      refine zx_aload_n (q := 242) dd_Md_control_241 rfl rfl ?_
                      refine zx_iload_n (q := 243) dd_Md_control_242 rfl rfl ?_
                      refine zx_iload (q := 245) dd_Md_control_243 rfl rfl ?_
                      refine zx_cV2v (q := 248) dd_Md_control_245 rfl cv_Md_control_191 ⟨rfl, rfl⟩ at_m rfl rfl (Nat.le_of_ble_eq_true rfl) ⟨Nat.zero_le _, Nat.zero_le _⟩ (ok_Md_close hf (by omega) hw fun D17 he17 hw17 => ⟨rfl, ?_⟩)
                      obtain ⟨t17, fr17, lo17, I17, J17⟩ := D17
                      exact zx_vret dd_Md_control_248 rfl (hq _ (by first | (simp [pm_control, pm_ans, pm_abS, pm_fin, up2_r, ec2, ea3, es, cl2, cl3, cls, hc1, eq_true hc27, hc53, he15, hc54, hc55, hc56, eq_true hc57, eq_true hc63, hc65, nI_clamp (show u < 2 ^ 31 by omega), eq_true hc66, he17]; done) | (simp [pm_control, pm_ans, pm_abS, pm_fin_20, hc1, eq_true hc27, hc53, he15, hc54, hc55, hc56, eq_true hc57, eq_true hc63, hc65, nI_clamp (show u < 2 ^ 31 by omega), eq_true hc66, he17]; done) | (clear hq; simp_all [pm_control, pm_ans, pm_abS, pm_fin, up2_r]; done)) hw17)
            · skip
              refine zx_iload (q := 164) dd_Md_control_162 rfl rfl ?_
              refine zx_if_eq 179 (q := 167) dd_Md_control_164 rfl (by decide) (fun hc67 => ?_) (fun hc67 => absurd (by decide) hc67)
              refine zx_iload (q := 181) dd_Md_control_179 rfl rfl ?_
              refine zx_bipush (nI 19) (q := 183) dd_Md_control_181 rfl (by decide) ?_
              refine zx_icmp_ne 201 (q := 186) dd_Md_control_183 rfl (by decide) (fun hc68 => ?_) (fun hc68 => ?_)
              · skip
                refine zx_iload (q := 203) dd_Md_control_201 rfl rfl ?_
                refine zx_sipush (nI 255) (q := 206) dd_Md_control_203 rfl (by decide) ?_
                refine zx_icmp_ne 248 (q := 209) dd_Md_control_206 rfl (by decide) (fun hc69 => ?_) (fun hc69 => ?_)
                · skip
                  exact zx_vret dd_Md_control_248 rfl (hq _ (by first | (simp [pm_control, pm_ans, pm_abS, pm_fin, up2_r, ec2, ea3, es, cl2, cl3, cls, hc1, eq_true hc27, hc53, he15, hc54, hc55, eq_true hc56, hc68, hc69]; done) | (simp [pm_control, pm_ans, pm_abS, pm_fin_20, hc1, eq_true hc27, hc53, he15, hc54, hc55, eq_true hc56, hc68, hc69]; done) | (clear hq; simp_all [pm_control, pm_ans, pm_abS, pm_fin, up2_r]; done)) hw)
                · skip
                  refine zx_iload (q := 211) dd_Md_control_209 rfl rfl ?_
                  refine zx_if_eq 224 (q := 214) dd_Md_control_211 rfl (by decide) (fun hc70 => ?_) (fun hc70 => absurd (by decide) hc70)
                  refine zx_iload (q := 226) dd_Md_control_224 rfl rfl ?_
                  refine zx_if_lt 248 (q := 229) dd_Md_control_226 rfl (by decide) (fun hc71 => ?_) (fun hc71 => ?_)
                  · skip
                    exact zx_vret dd_Md_control_248 rfl (hq _ (by first | (simp [pm_control, pm_ans, pm_abS, pm_fin, up2_r, ec2, ea3, es, cl2, cl3, cls, hc1, eq_true hc27, hc53, he15, hc54, hc55, eq_true hc56, hc68, eq_true hc69, hc71]; done) | (simp [pm_control, pm_ans, pm_abS, pm_fin_20, hc1, eq_true hc27, hc53, he15, hc54, hc55, eq_true hc56, hc68, eq_true hc69, hc71]; done) | (clear hq; simp_all [pm_control, pm_ans, pm_abS, pm_fin, up2_r]; done)) hw)
                  · skip
                    obtain ⟨u, hu1, hu2, hu3⟩ := pm_findK_n (I := I) c (2 * f) (he15 ▸ hc71)
                    have hru : r15 = nI u := he15.symm.trans hu3
                    subst hru
                    refine zx_aload_n (q := 230) dd_Md_control_229 rfl rfl ?_
                    refine zx_get (q := 233) dd_Md_control_230 rfl fl_Md_72 at_m rfl ?_
                    refine zx_iload (q := 235) dd_Md_control_233 rfl rfl ?_
                    refine zx_iald (q := 236) dd_Md_control_235 rfl at_m20 rfl (by omega) (by decide) ?_
                    refine zx_iload (q := 238) dd_Md_control_236 rfl rfl ?_
                    refine zx_icmp_ne 248 (q := 241) dd_Md_control_238 rfl (by decide) (fun hc72 => ?_) (fun hc72 => ?_)
                    · skip
                      exact zx_vret dd_Md_control_248 rfl (hq _ (by first | (simp [pm_control, pm_ans, pm_abS, pm_fin, up2_r, ec2, ea3, es, cl2, cl3, cls, hc1, eq_true hc27, hc53, he15, hc54, hc55, eq_true hc56, hc68, eq_true hc69, hc71, nI_clamp (show u < 2 ^ 31 by omega), hc72]; done) | (simp [pm_control, pm_ans, pm_abS, pm_fin_20, hc1, eq_true hc27, hc53, he15, hc54, hc55, eq_true hc56, hc68, eq_true hc69, hc71, nI_clamp (show u < 2 ^ 31 by omega), hc72]; done) | (clear hq; simp_all [pm_control, pm_ans, pm_abS, pm_fin, up2_r]; done)) hw)
                    · skip
                      refine zx_aload_n (q := 242) dd_Md_control_241 rfl rfl ?_
                      refine zx_iload_n (q := 243) dd_Md_control_242 rfl rfl ?_
                      refine zx_iload (q := 245) dd_Md_control_243 rfl rfl ?_
                      refine zx_cV2v (q := 248) dd_Md_control_245 rfl cv_Md_control_191 ⟨rfl, rfl⟩ at_m rfl rfl (Nat.le_of_ble_eq_true rfl) ⟨Nat.zero_le _, Nat.zero_le _⟩ (ok_Md_close hf (by omega) hw fun D18 he18 hw18 => ⟨rfl, ?_⟩)
                      obtain ⟨t18, fr18, lo18, I18, J18⟩ := D18
                      exact zx_vret dd_Md_control_248 rfl (hq _ (by first | (simp [pm_control, pm_ans, pm_abS, pm_fin, up2_r, ec2, ea3, es, cl2, cl3, cls, hc1, eq_true hc27, hc53, he15, hc54, hc55, eq_true hc56, hc68, eq_true hc69, hc71, nI_clamp (show u < 2 ^ 31 by omega), eq_true hc72, he18]; done) | (simp [pm_control, pm_ans, pm_abS, pm_fin_20, hc1, eq_true hc27, hc53, he15, hc54, hc55, eq_true hc56, hc68, eq_true hc69, hc71, nI_clamp (show u < 2 ^ 31 by omega), eq_true hc72, he18]; done) | (clear hq; simp_all [pm_control, pm_ans, pm_abS, pm_fin, up2_r]; done)) hw18)
              · skip
                refine zx_iload (q := 188) dd_Md_control_186 rfl rfl ?_
                refine zx_if_eq 201 (q := 191) dd_Md_control_188 rfl (by decide) (fun hc73 => ?_) (fun hc73 => absurd (by decide) hc73)
                refine zx_iload (q := 203) dd_Md_control_201 rfl rfl ?_
                refine zx_sipush (nI 255) (q := 206) dd_Md_control_203 rfl (by decide) ?_
                refine zx_icmp_ne 248 (q := 209) dd_Md_control_206 rfl (by decide) (fun hc74 => ?_) (fun hc74 => ?_)
                · skip
                  exact zx_vret dd_Md_control_248 rfl (hq _ (by first | (simp [pm_control, pm_ans, pm_abS, pm_fin, up2_r, ec2, ea3, es, cl2, cl3, cls, hc1, eq_true hc27, hc53, he15, hc54, hc55, eq_true hc56, eq_true hc68, hc74]; done) | (simp [pm_control, pm_ans, pm_abS, pm_fin_20, hc1, eq_true hc27, hc53, he15, hc54, hc55, eq_true hc56, eq_true hc68, hc74]; done) | (clear hq; simp_all [pm_control, pm_ans, pm_abS, pm_fin, up2_r]; done)) hw)
                · skip
                  refine zx_iload (q := 211) dd_Md_control_209 rfl rfl ?_
                  refine zx_if_eq 224 (q := 214) dd_Md_control_211 rfl (by decide) (fun hc75 => ?_) (fun hc75 => absurd (by decide) hc75)
                  refine zx_iload (q := 226) dd_Md_control_224 rfl rfl ?_
                  refine zx_if_lt 248 (q := 229) dd_Md_control_226 rfl (by decide) (fun hc76 => ?_) (fun hc76 => ?_)
                  · skip
                    exact zx_vret dd_Md_control_248 rfl (hq _ (by first | (simp [pm_control, pm_ans, pm_abS, pm_fin, up2_r, ec2, ea3, es, cl2, cl3, cls, hc1, eq_true hc27, hc53, he15, hc54, hc55, eq_true hc56, eq_true hc68, eq_true hc74, hc76]; done) | (simp [pm_control, pm_ans, pm_abS, pm_fin_20, hc1, eq_true hc27, hc53, he15, hc54, hc55, eq_true hc56, eq_true hc68, eq_true hc74, hc76]; done) | (clear hq; simp_all [pm_control, pm_ans, pm_abS, pm_fin, up2_r]; done)) hw)
                  · skip
                    obtain ⟨u, hu1, hu2, hu3⟩ := pm_findK_n (I := I) c (2 * f) (he15 ▸ hc76)
                    have hru : r15 = nI u := he15.symm.trans hu3
                    subst hru
                    refine zx_aload_n (q := 230) dd_Md_control_229 rfl rfl ?_
                    refine zx_get (q := 233) dd_Md_control_230 rfl fl_Md_72 at_m rfl ?_
                    refine zx_iload (q := 235) dd_Md_control_233 rfl rfl ?_
                    refine zx_iald (q := 236) dd_Md_control_235 rfl at_m20 rfl (by omega) (by decide) ?_
                    refine zx_iload (q := 238) dd_Md_control_236 rfl rfl ?_
                    refine zx_icmp_ne 248 (q := 241) dd_Md_control_238 rfl (by decide) (fun hc77 => ?_) (fun hc77 => ?_)
                    · skip
                      exact zx_vret dd_Md_control_248 rfl (hq _ (by first | (simp [pm_control, pm_ans, pm_abS, pm_fin, up2_r, ec2, ea3, es, cl2, cl3, cls, hc1, eq_true hc27, hc53, he15, hc54, hc55, eq_true hc56, eq_true hc68, eq_true hc74, hc76, nI_clamp (show u < 2 ^ 31 by omega), hc77]; done) | (simp [pm_control, pm_ans, pm_abS, pm_fin_20, hc1, eq_true hc27, hc53, he15, hc54, hc55, eq_true hc56, eq_true hc68, eq_true hc74, hc76, nI_clamp (show u < 2 ^ 31 by omega), hc77]; done) | (clear hq; simp_all [pm_control, pm_ans, pm_abS, pm_fin, up2_r]; done)) hw)
                    · skip
                      refine zx_aload_n (q := 242) dd_Md_control_241 rfl rfl ?_
                      refine zx_iload_n (q := 243) dd_Md_control_242 rfl rfl ?_
                      refine zx_iload (q := 245) dd_Md_control_243 rfl rfl ?_
                      refine zx_cV2v (q := 248) dd_Md_control_245 rfl cv_Md_control_191 ⟨rfl, rfl⟩ at_m rfl rfl (Nat.le_of_ble_eq_true rfl) ⟨Nat.zero_le _, Nat.zero_le _⟩ (ok_Md_close hf (by omega) hw fun D19 he19 hw19 => ⟨rfl, ?_⟩)
                      obtain ⟨t19, fr19, lo19, I19, J19⟩ := D19
                      exact zx_vret dd_Md_control_248 rfl (hq _ (by first | (simp [pm_control, pm_ans, pm_abS, pm_fin, up2_r, ec2, ea3, es, cl2, cl3, cls, hc1, eq_true hc27, hc53, he15, hc54, hc55, eq_true hc56, eq_true hc68, eq_true hc74, hc76, nI_clamp (show u < 2 ^ 31 by omega), eq_true hc77, he19]; done) | (simp [pm_control, pm_ans, pm_abS, pm_fin_20, hc1, eq_true hc27, hc53, he15, hc54, hc55, eq_true hc56, eq_true hc68, eq_true hc74, hc76, nI_clamp (show u < 2 ^ 31 by omega), eq_true hc77, he19]; done) | (clear hq; simp_all [pm_control, pm_ans, pm_abS, pm_fin, up2_r]; done)) hw19)
          · skip
            refine zx_aload_n (q := 135) dd_Md_control_134 rfl rfl ?_
            refine zx_iload_n (q := 136) dd_Md_control_135 rfl rfl ?_
            refine zx_iload_n (q := 137) dd_Md_control_136 rfl rfl ?_
            refine zx_iload (q := 139) dd_Md_control_137 rfl rfl ?_
            refine zx_sipush (nI 256) (q := 142) dd_Md_control_139 rfl (by decide) ?_
            refine zx_iload (q := 144) dd_Md_control_142 rfl rfl ?_
            refine zx_imul (q := 145) dd_Md_control_144 rfl ?_
            refine zx_iadd (q := 146) dd_Md_control_145 rfl ?_
            refine zx_iload (q := 148) dd_Md_control_146 rfl rfl ?_
            refine zx_iconst (nI 0) (q := 149) dd_Md_control_148 rfl (by decide) ?_
            refine zx_cV5v (q := 152) dd_Md_control_149 rfl cv_Md_control_179 ⟨rfl, rfl⟩ at_m rfl rfl (Nat.le_of_ble_eq_true rfl) ⟨Nat.zero_le _, Nat.zero_le _⟩ (ok_Md_opened hf hc hins hw fun D20 he20 hw20 => ⟨rfl, ?_⟩)
            obtain ⟨t20, fr20, lo20, I20, J20⟩ := D20
            refine zx_goto 248 dd_Md_control_152 (by decide) ?_
            exact zx_vret dd_Md_control_248 rfl (hq _ (by first | (simp [pm_control, pm_ans, pm_abS, pm_fin, up2_r, ec2, ea3, es, cl2, cl3, cls, hc1, eq_true hc27, hc53, he15, hc54, eq_true hc55, he20]; done) | (simp [pm_control, pm_ans, pm_abS, pm_fin_20, hc1, eq_true hc27, hc53, he15, hc54, eq_true hc55, he20]; done) | (clear hq; simp_all [pm_control, pm_ans, pm_abS, pm_fin, up2_r]; done)) hw20)
        · skip
          refine zx_iload (q := 101) dd_Md_control_99 rfl rfl ?_
          refine zx_bipush (nI 32) (q := 103) dd_Md_control_101 rfl (by decide) ?_
          refine zx_icmp_ne 248 (q := 106) dd_Md_control_103 rfl (by decide) (fun hc78 => ?_) (fun hc78 => ?_)
          · skip
            exact zx_vret dd_Md_control_248 rfl (hq _ (by first | (simp [pm_control, pm_ans, pm_abS, pm_fin, up2_r, ec2, ea3, es, cl2, cl3, cls, hc1, eq_true hc27, hc53, he15, eq_true hc54, hc78]; done) | (simp [pm_control, pm_ans, pm_abS, pm_fin_20, hc1, eq_true hc27, hc53, he15, eq_true hc54, hc78]; done) | (clear hq; simp_all [pm_control, pm_ans, pm_abS, pm_fin, up2_r]; done)) hw)
          · skip
            refine zx_aload_n (q := 107) dd_Md_control_106 rfl rfl ?_
            refine zx_iload_n (q := 108) dd_Md_control_107 rfl rfl ?_
            refine zx_iload_n (q := 109) dd_Md_control_108 rfl rfl ?_
            refine zx_iload (q := 111) dd_Md_control_109 rfl rfl ?_
            refine zx_sipush (nI 256) (q := 114) dd_Md_control_111 rfl (by decide) ?_
            refine zx_iload (q := 116) dd_Md_control_114 rfl rfl ?_
            refine zx_imul (q := 117) dd_Md_control_116 rfl ?_
            refine zx_iadd (q := 118) dd_Md_control_117 rfl ?_
            refine zx_iload (q := 120) dd_Md_control_118 rfl rfl ?_
            refine zx_iconst (nI 1) (q := 121) dd_Md_control_120 rfl (by decide) ?_
            refine zx_cV5v (q := 124) dd_Md_control_121 rfl cv_Md_control_179 ⟨rfl, rfl⟩ at_m rfl rfl (Nat.le_of_ble_eq_true rfl) ⟨Nat.zero_le _, Nat.zero_le _⟩ (ok_Md_opened hf hc hins hw fun D21 he21 hw21 => ⟨rfl, ?_⟩)
            obtain ⟨t21, fr21, lo21, I21, J21⟩ := D21
            refine zx_goto 248 dd_Md_control_124 (by decide) ?_
            exact zx_vret dd_Md_control_248 rfl (hq _ (by first | (simp [pm_control, pm_ans, pm_abS, pm_fin, up2_r, ec2, ea3, es, cl2, cl3, cls, hc1, eq_true hc27, hc53, he15, eq_true hc54, eq_true hc78, he21]; done) | (simp [pm_control, pm_ans, pm_abS, pm_fin_20, hc1, eq_true hc27, hc53, he15, eq_true hc54, eq_true hc78, he21]; done) | (clear hq; simp_all [pm_control, pm_ans, pm_abS, pm_fin, up2_r]; done)) hw21)
      · skip
        refine zx_iconst (nI 1) (q := 77) dd_Md_control_76 rfl (by decide) ?_
        refine zx_goto 81 dd_Md_control_77 (by decide) ?_
        refine zx_istore_10 (q := 83) dd_Md_control_81 rfl (by decide) rfl ?_
        refine zx_aload_n (q := 84) dd_Md_control_83 rfl rfl ?_
        refine zx_iload_n (q := 85) dd_Md_control_84 rfl rfl ?_
        refine zx_iload_n (q := 86) dd_Md_control_85 rfl rfl ?_
        refine zx_iconst (nI 0) (q := 87) dd_Md_control_86 rfl (by decide) ?_
        refine zx_cV3i (q := 90) dd_Md_control_87 rfl cv_Md_control_175 ⟨rfl, rfl⟩ at_m rfl rfl (Nat.le_of_ble_eq_true rfl) ⟨Nat.zero_le _, Nat.zero_le _⟩ (ok_Md_find hf hc hins fun r22 he22 => ⟨_, rfl, ?_⟩)
        refine zx_istore_11 (q := 92) dd_Md_control_90 rfl (by decide) rfl ?_
        refine zx_iload_n (q := 93) dd_Md_control_92 rfl rfl ?_
        refine zx_sipush (nI 255) (q := 96) dd_Md_control_93 rfl (by decide) ?_
        refine zx_icmp_ne 127 (q := 99) dd_Md_control_96 rfl (by decide) (fun hc79 => ?_) (fun hc79 => ?_)
        · skip
          refine zx_iload (q := 129) dd_Md_control_127 rfl rfl ?_
          refine zx_bipush (nI 16) (q := 131) dd_Md_control_129 rfl (by decide) ?_
          refine zx_icmp_ne 155 (q := 134) dd_Md_control_131 rfl (by decide) (fun hc80 => ?_) (fun hc80 => ?_)
          · skip
            refine zx_iload (q := 157) dd_Md_control_155 rfl rfl ?_
            refine zx_bipush (nI 17) (q := 159) dd_Md_control_157 rfl (by decide) ?_
            refine zx_icmp_ne 179 (q := 162) dd_Md_control_159 rfl (by decide) (fun hc81 => ?_) (fun hc81 => ?_)
            · skip
              refine zx_iload (q := 181) dd_Md_control_179 rfl rfl ?_
              refine zx_bipush (nI 19) (q := 183) dd_Md_control_181 rfl (by decide) ?_
              refine zx_icmp_ne 201 (q := 186) dd_Md_control_183 rfl (by decide) (fun hc82 => ?_) (fun hc82 => ?_)
              · skip
                refine zx_iload (q := 203) dd_Md_control_201 rfl rfl ?_
                refine zx_sipush (nI 255) (q := 206) dd_Md_control_203 rfl (by decide) ?_
                refine zx_icmp_ne 248 (q := 209) dd_Md_control_206 rfl (by decide) (fun hc83 => ?_) (fun hc83 => ?_)
                · skip
                  exact zx_vret dd_Md_control_248 rfl (hq _ (by first | (simp [pm_control, pm_ans, pm_abS, pm_fin, up2_r, ec2, ea3, es, cl2, cl3, cls, hc1, eq_true hc27, eq_true hc53, he22, hc79, hc80, hc81, hc82, hc83]; done) | (simp [pm_control, pm_ans, pm_abS, pm_fin_20, hc1, eq_true hc27, eq_true hc53, he22, hc79, hc80, hc81, hc82, hc83]; done) | (clear hq; simp_all [pm_control, pm_ans, pm_abS, pm_fin, up2_r]; done)) hw)
                · skip
                  refine zx_iload (q := 211) dd_Md_control_209 rfl rfl ?_
                  refine zx_if_eq 224 (q := 214) dd_Md_control_211 rfl (by decide) (fun hc84 => absurd hc84 (by decide)) (fun hc84 => ?_)
                  refine zx_aload_n (q := 215) dd_Md_control_214 rfl rfl ?_
                  refine zx_iload_n (q := 216) dd_Md_control_215 rfl rfl ?_
                  refine zx_bipush (nI 20) (q := 218) dd_Md_control_216 rfl (by decide) ?_
                  refine zx_iload (q := 220) dd_Md_control_218 rfl rfl ?_
                  refine zx_iadd (q := 221) dd_Md_control_220 rfl ?_
                  refine zx_cV2v (q := 224) dd_Md_control_221 rfl cv_Md_control_187 ⟨rfl, rfl⟩ at_m rfl rfl (Nat.le_of_ble_eq_true rfl) ⟨Nat.zero_le _, Nat.zero_le _⟩ (ok_Md_finish hf ⟨rfl, ?_⟩)
                  refine zx_iload (q := 226) dd_Md_control_224 rfl rfl ?_
                  refine zx_if_lt 248 (q := 229) dd_Md_control_226 rfl (by decide) (fun hc85 => ?_) (fun hc85 => ?_)
                  · skip
                    exact zx_vret dd_Md_control_248 rfl (hq _ (by first | (simp [pm_control, pm_ans, pm_abS, pm_fin, up2_r, ec2, ea3, es, cl2, cl3, cls, hc1, eq_true hc27, eq_true hc53, he22, hc79, hc80, hc81, hc82, eq_true hc83, hc85]; done) | (simp [pm_control, pm_ans, pm_abS, pm_fin_20, hc1, eq_true hc27, eq_true hc53, he22, hc79, hc80, hc81, hc82, eq_true hc83, hc85]; done) | (clear hq; simp_all [pm_control, pm_ans, pm_abS, pm_fin, up2_r]; done)) hw)
                  · skip
                    obtain ⟨u, hu1, hu2, hu3⟩ := pm_findK_n (I := I) c (2 * f) (he22 ▸ hc85)
                    have hru : r22 = nI u := he22.symm.trans hu3
                    subst hru
                    refine zx_aload_n (q := 230) dd_Md_control_229 rfl rfl ?_
                    refine zx_get (q := 233) dd_Md_control_230 rfl fl_Md_72 at_m rfl ?_
                    refine zx_iload (q := 235) dd_Md_control_233 rfl rfl ?_
                    refine zx_iald (q := 236) dd_Md_control_235 rfl at_m20 rfl (by omega) (by decide) ?_
                    refine zx_topr (I := I) (fun j => by simp [up2_r]) ?_
                    refine zx_iload (q := 238) dd_Md_control_236 rfl rfl ?_
                    refine zx_icmp_ne 248 (q := 241) dd_Md_control_238 rfl (by decide) (fun hc86 => ?_) (fun hc86 => ?_)
                    · skip
                      exact zx_vret dd_Md_control_248 rfl (hq _ (by first | (simp [pm_control, pm_ans, pm_abS, pm_fin, up2_r, ec2, ea3, es, cl2, cl3, cls, hc1, eq_true hc27, eq_true hc53, he22, hc79, hc80, hc81, hc82, eq_true hc83, hc85, nI_clamp (show u < 2 ^ 31 by omega), hc86]; done) | (simp [pm_control, pm_ans, pm_abS, pm_fin_20, hc1, eq_true hc27, eq_true hc53, he22, hc79, hc80, hc81, hc82, eq_true hc83, hc85, nI_clamp (show u < 2 ^ 31 by omega), hc86]; done) | (clear hq; simp_all [pm_control, pm_ans, pm_abS, pm_fin, up2_r]; done)) hw)
                    · skip
                      refine zx_aload_n (q := 242) dd_Md_control_241 rfl rfl ?_
                      refine zx_iload_n (q := 243) dd_Md_control_242 rfl rfl ?_
                      refine zx_iload (q := 245) dd_Md_control_243 rfl rfl ?_
                      refine zx_cV2v (q := 248) dd_Md_control_245 rfl cv_Md_control_191 ⟨rfl, rfl⟩ at_m rfl rfl (Nat.le_of_ble_eq_true rfl) ⟨Nat.zero_le _, Nat.zero_le _⟩ (ok_Md_close hf (by omega) hw fun D23 he23 hw23 => ⟨rfl, ?_⟩)
                      obtain ⟨t23, fr23, lo23, I23, J23⟩ := D23
                      exact zx_vret dd_Md_control_248 rfl (hq _ (by first | (simp [pm_control, pm_ans, pm_abS, pm_fin, up2_r, ec2, ea3, es, cl2, cl3, cls, hc1, eq_true hc27, eq_true hc53, he22, hc79, hc80, hc81, hc82, eq_true hc83, hc85, nI_clamp (show u < 2 ^ 31 by omega), eq_true hc86, he23]; done) | (simp [pm_control, pm_ans, pm_abS, pm_fin_20, hc1, eq_true hc27, eq_true hc53, he22, hc79, hc80, hc81, hc82, eq_true hc83, hc85, nI_clamp (show u < 2 ^ 31 by omega), eq_true hc86, he23]; done) | (clear hq; simp_all [pm_control, pm_ans, pm_abS, pm_fin, up2_r]; done)) hw23)
              · skip
                refine zx_iload (q := 188) dd_Md_control_186 rfl rfl ?_
                refine zx_if_eq 201 (q := 191) dd_Md_control_188 rfl (by decide) (fun hc87 => absurd hc87 (by decide)) (fun hc87 => ?_)
                refine zx_aload_n (q := 192) dd_Md_control_191 rfl rfl ?_
                refine zx_iload_n (q := 193) dd_Md_control_192 rfl rfl ?_
                refine zx_bipush (nI 10) (q := 195) dd_Md_control_193 rfl (by decide) ?_
                refine zx_cV2v (q := 198) dd_Md_control_195 rfl cv_Md_control_187 ⟨rfl, rfl⟩ at_m rfl rfl (Nat.le_of_ble_eq_true rfl) ⟨Nat.zero_le _, Nat.zero_le _⟩ (ok_Md_finish hf ⟨rfl, ?_⟩)
                refine zx_goto 248 dd_Md_control_198 (by decide) ?_
                exact zx_vret dd_Md_control_248 rfl (hq _ (by first | (simp [pm_control, pm_ans, pm_abS, pm_fin, up2_r, ec2, ea3, es, cl2, cl3, cls, hc1, eq_true hc27, eq_true hc53, he22, hc79, hc80, hc81, eq_true hc82]; done) | (simp [pm_control, pm_ans, pm_abS, pm_fin_20, hc1, eq_true hc27, eq_true hc53, he22, hc79, hc80, hc81, eq_true hc82]; done) | (clear hq; simp_all [pm_control, pm_ans, pm_abS, pm_fin, up2_r]; done)) hw)
            · skip
              refine zx_iload (q := 164) dd_Md_control_162 rfl rfl ?_
              refine zx_if_eq 179 (q := 167) dd_Md_control_164 rfl (by decide) (fun hc88 => absurd hc88 (by decide)) (fun hc88 => ?_)
              refine zx_aload_n (q := 168) dd_Md_control_167 rfl rfl ?_
              refine zx_iload_n (q := 169) dd_Md_control_168 rfl rfl ?_
              refine zx_iload (q := 171) dd_Md_control_169 rfl rfl ?_
              refine zx_topi ec2 ?_
              refine zx_iload (q := 173) dd_Md_control_171 rfl rfl ?_
              refine zx_topi ea3 ?_
              refine zx_cV3v (q := 176) dd_Md_control_173 rfl cv_Md_control_183 ⟨rfl, rfl⟩ at_m rfl rfl (Nat.le_of_ble_eq_true rfl) ⟨Nat.zero_le _, Nat.zero_le _⟩ (ok_Md_granted hf hz2 ha3 hs9 es hw fun D24 he24 hw24 => ⟨rfl, ?_⟩)
              obtain ⟨t24, fr24, lo24, I24, J24⟩ := D24
              refine zx_goto 248 dd_Md_control_176 (by decide) ?_
              exact zx_vret dd_Md_control_248 rfl (hq _ (by first | (simp [pm_control, pm_ans, pm_abS, pm_fin, up2_r, ec2, ea3, es, cl2, cl3, cls, hc1, eq_true hc27, eq_true hc53, he22, hc79, hc80, eq_true hc81, he24]; done) | (simp [pm_control, pm_ans, pm_abS, pm_fin_20, hc1, eq_true hc27, eq_true hc53, he22, hc79, hc80, eq_true hc81, he24]; done) | (clear hq; simp_all [pm_control, pm_ans, pm_abS, pm_fin, up2_r]; done)) hw24)
          · skip
            refine zx_aload_n (q := 135) dd_Md_control_134 rfl rfl ?_
            refine zx_iload_n (q := 136) dd_Md_control_135 rfl rfl ?_
            refine zx_iload_n (q := 137) dd_Md_control_136 rfl rfl ?_
            refine zx_iload (q := 139) dd_Md_control_137 rfl rfl ?_
            refine zx_sipush (nI 256) (q := 142) dd_Md_control_139 rfl (by decide) ?_
            refine zx_iload (q := 144) dd_Md_control_142 rfl rfl ?_
            refine zx_imul (q := 145) dd_Md_control_144 rfl ?_
            refine zx_iadd (q := 146) dd_Md_control_145 rfl ?_
            refine zx_iload (q := 148) dd_Md_control_146 rfl rfl ?_
            refine zx_iconst (nI 0) (q := 149) dd_Md_control_148 rfl (by decide) ?_
            refine zx_cV5v (q := 152) dd_Md_control_149 rfl cv_Md_control_179 ⟨rfl, rfl⟩ at_m rfl rfl (Nat.le_of_ble_eq_true rfl) ⟨Nat.zero_le _, Nat.zero_le _⟩ (ok_Md_opened hf hc hins hw fun D25 he25 hw25 => ⟨rfl, ?_⟩)
            obtain ⟨t25, fr25, lo25, I25, J25⟩ := D25
            refine zx_goto 248 dd_Md_control_152 (by decide) ?_
            exact zx_vret dd_Md_control_248 rfl (hq _ (by first | (simp [pm_control, pm_ans, pm_abS, pm_fin, up2_r, ec2, ea3, es, cl2, cl3, cls, hc1, eq_true hc27, eq_true hc53, he22, hc79, eq_true hc80, he25]; done) | (simp [pm_control, pm_ans, pm_abS, pm_fin_20, hc1, eq_true hc27, eq_true hc53, he22, hc79, eq_true hc80, he25]; done) | (clear hq; simp_all [pm_control, pm_ans, pm_abS, pm_fin, up2_r]; done)) hw25)
        · skip
          refine zx_iload (q := 101) dd_Md_control_99 rfl rfl ?_
          refine zx_bipush (nI 32) (q := 103) dd_Md_control_101 rfl (by decide) ?_
          refine zx_icmp_ne 248 (q := 106) dd_Md_control_103 rfl (by decide) (fun hc89 => ?_) (fun hc89 => ?_)
          · skip
            exact zx_vret dd_Md_control_248 rfl (hq _ (by first | (simp [pm_control, pm_ans, pm_abS, pm_fin, up2_r, ec2, ea3, es, cl2, cl3, cls, hc1, eq_true hc27, eq_true hc53, he22, eq_true hc79, hc89]; done) | (simp [pm_control, pm_ans, pm_abS, pm_fin_20, hc1, eq_true hc27, eq_true hc53, he22, eq_true hc79, hc89]; done) | (clear hq; simp_all [pm_control, pm_ans, pm_abS, pm_fin, up2_r]; done)) hw)
          · skip
            refine zx_aload_n (q := 107) dd_Md_control_106 rfl rfl ?_
            refine zx_iload_n (q := 108) dd_Md_control_107 rfl rfl ?_
            refine zx_iload_n (q := 109) dd_Md_control_108 rfl rfl ?_
            refine zx_iload (q := 111) dd_Md_control_109 rfl rfl ?_
            refine zx_sipush (nI 256) (q := 114) dd_Md_control_111 rfl (by decide) ?_
            refine zx_iload (q := 116) dd_Md_control_114 rfl rfl ?_
            refine zx_imul (q := 117) dd_Md_control_116 rfl ?_
            refine zx_iadd (q := 118) dd_Md_control_117 rfl ?_
            refine zx_iload (q := 120) dd_Md_control_118 rfl rfl ?_
            refine zx_iconst (nI 1) (q := 121) dd_Md_control_120 rfl (by decide) ?_
            refine zx_cV5v (q := 124) dd_Md_control_121 rfl cv_Md_control_179 ⟨rfl, rfl⟩ at_m rfl rfl (Nat.le_of_ble_eq_true rfl) ⟨Nat.zero_le _, Nat.zero_le _⟩ (ok_Md_opened hf hc hins hw fun D26 he26 hw26 => ⟨rfl, ?_⟩)
            obtain ⟨t26, fr26, lo26, I26, J26⟩ := D26
            refine zx_goto 248 dd_Md_control_124 (by decide) ?_
            exact zx_vret dd_Md_control_248 rfl (hq _ (by first | (simp [pm_control, pm_ans, pm_abS, pm_fin, up2_r, ec2, ea3, es, cl2, cl3, cls, hc1, eq_true hc27, eq_true hc53, he22, eq_true hc79, eq_true hc89, he26]; done) | (simp [pm_control, pm_ans, pm_abS, pm_fin_20, hc1, eq_true hc27, eq_true hc53, he22, eq_true hc79, eq_true hc89, he26]; done) | (clear hq; simp_all [pm_control, pm_ans, pm_abS, pm_fin, up2_r]; done)) hw26)
set_option maxRecDepth 100000 in
set_option maxHeartbeats 4000000 in
theorem lo_Md_spare {E : zxE} {b n : Nat} {B : zB} {F : Nat → zFn} {Q : Option Value → zxH → Nat → Prop} {t lo : Int32} {fr : Nat} {I : Nat → Nat → Int32} {J : Nat → Nat → Int64} {f : Nat} {a : Int32} (hf : f < 5) (hr : zx_X E mi_Md_spare (zx_Y E mi_Md_spare Q) 53 [some (.ref (b + 71)), some (.int (nI f)), some (.int a), some (.int (zb (pm_ntd I f a 5))), some (.int (nI 5))] [] (zs b (B, F, (t, fr, lo, I, J))) n 0 0) : ∀ k i : Nat, i + k = 5 → zx_X E mi_Md_spare (zx_Y E mi_Md_spare Q) 16 [some (.ref (b + 71)), some (.int (nI f)), some (.int a), some (.int (zb (pm_ntd I f a i))), some (.int (nI i))] [] (zs b (B, F, (t, fr, lo, I, J))) n 0 0 := by
  intro k
  induction k with
  | zero =>
    intro i h2
    have h3 : i = 5 := by omega
    subst h3
    refine zx_iload (q := 18) dd_Md_spare_16 rfl rfl ?_
    refine zx_iconst (nI 5) (q := 19) dd_Md_spare_18 rfl (by decide) ?_
    refine zx_icmp_ge 53 (q := 22) dd_Md_spare_19 rfl (by decide) (fun hc1 => ?_) (fun hc1 => absurd (by decide) hc1)
    exact hr
  | succ k ih =>
    intro i h2
    have ih := ih (i + 1) (by omega)
    refine zx_iload (q := 18) dd_Md_spare_16 rfl rfl ?_
    refine zx_iconst (nI 5) (q := 19) dd_Md_spare_18 rfl (by decide) ?_
    refine zx_icmp_ge 53 (q := 22) dd_Md_spare_19 rfl (by decide) (fun hc1 => absurd hc1 (fun z => absurd ((nI_leI (by decide) (by omega)).mp z) (by omega))) (fun hc1 => ?_)
    refine zx_iload_n (q := 23) dd_Md_spare_22 rfl rfl ?_
    refine zx_if_ne 41 (q := 26) dd_Md_spare_23 rfl (by decide) (fun hc2 => ?_) (fun hc2 => ?_)
    · skip
      replace hc2 := zb_n0.mp hc2
      refine zx_iconst (nI 1) (q := 42) dd_Md_spare_41 rfl (by decide) ?_
      refine zx_topi zb_1 ?_
      refine zx_goto 46 dd_Md_spare_42 (by decide) ?_
      refine zx_istore_3 (q := 47) dd_Md_spare_46 rfl (by decide) rfl ?_
      refine zx_iincN_4 (q := 50) dd_Md_spare_47 rfl (by decide) rfl ?_
      refine zx_goto 16 dd_Md_spare_50 (by decide) ?_
      have z : pm_ntd I f a (i + 1) = true := by simp [pm_ntd, hc2]
      rw [z] at ih
      exact ih
    · skip
      replace hc2 := zb_0.mp hc2
      refine zx_aload_n (q := 27) dd_Md_spare_26 rfl rfl ?_
      refine zx_get (q := 30) dd_Md_spare_27 rfl fl_Md_27 at_m rfl ?_
      refine zx_iconst (nI 5) (q := 31) dd_Md_spare_30 rfl (by decide) ?_
      refine zx_iload_n (q := 32) dd_Md_spare_31 rfl rfl ?_
      refine zx_imul (q := 33) dd_Md_spare_32 rfl ?_
      refine zx_topi (pk_mul _ _) ?_
      refine zx_iload (q := 35) dd_Md_spare_33 rfl rfl ?_
      refine zx_iadd (q := 36) dd_Md_spare_35 rfl ?_
      refine zx_topi (nI_add _ _) ?_
      refine zx_iald (q := 37) dd_Md_spare_36 rfl at_m5 rfl (by omega) (by decide) ?_
      refine zx_iload_n (q := 38) dd_Md_spare_37 rfl rfl ?_
      refine zx_icmp_ne 45 (q := 41) dd_Md_spare_38 rfl (by decide) (fun hc3 => ?_) (fun hc3 => ?_)
      · skip
        refine zx_iconst (nI 0) (q := 46) dd_Md_spare_45 rfl (by decide) ?_
        refine zx_topi zb_f ?_
        refine zx_istore_3 (q := 47) dd_Md_spare_46 rfl (by decide) rfl ?_
        refine zx_iincN_4 (q := 50) dd_Md_spare_47 rfl (by decide) rfl ?_
        refine zx_goto 16 dd_Md_spare_50 (by decide) ?_
        have z : pm_ntd I f a (i + 1) = false := by simp [pm_ntd, hc2, hc3]
        rw [z] at ih
        exact ih
      · skip
        refine zx_iconst (nI 1) (q := 42) dd_Md_spare_41 rfl (by decide) ?_
        refine zx_topi zb_1 ?_
        refine zx_goto 46 dd_Md_spare_42 (by decide) ?_
        refine zx_istore_3 (q := 47) dd_Md_spare_46 rfl (by decide) rfl ?_
        refine zx_iincN_4 (q := 50) dd_Md_spare_47 rfl (by decide) rfl ?_
        refine zx_goto 16 dd_Md_spare_50 (by decide) ?_
        have z : pm_ntd I f a (i + 1) = true := by simp [pm_ntd, hc2, eq_true hc3]
        rw [z] at ih
        exact ih
set_option maxRecDepth 100000 in
set_option maxHeartbeats 4000000 in
theorem ok_Md_spare {E : zxE} {b n : Nat} {B : zB} {F : Nat → zFn} {D : zMd} {Q : Option Value → zxH → Nat → Prop} {f : Nat} (hf : f < 5) (hq : ∀ r, pm_spare D.2.2.2.1 f = r → Q (some (.int r)) (zs b (B, F, D)) n) : zx_Ok E my_Md_spare mi_Md_spare [.ref (b + 71), .int (nI f)] (zs b (B, F, D)) n Q := by
  obtain ⟨t, fr, lo, I, J⟩ := D
  refine zx_start [some (.ref (b + 71)), some (.int (nI f)), none, none, none] (by decide) rfl rfl (Nat.le_of_ble_eq_true rfl) rfl ?_
  refine zx_sipush (nI 128) (q := 3) dd_Md_spare_0 rfl (by decide) ?_
  refine zx_istore_2 (q := 4) dd_Md_spare_3 rfl (by decide) rfl ?_
  refine zx_iload_n (q := 5) dd_Md_spare_4 rfl rfl ?_
  refine zx_sipush (nI 132) (q := 8) dd_Md_spare_5 rfl (by decide) ?_
  refine zx_icmp_ge 65 (q := 11) dd_Md_spare_8 rfl (by decide) (fun hc1 => absurd hc1 (by decide)) (fun hc1 => ?_)
  refine zx_iconst (nI 0) (q := 12) dd_Md_spare_11 rfl (by decide) ?_
  refine zx_istore_3 (q := 13) dd_Md_spare_12 rfl (by decide) rfl ?_
  refine zx_iconst (nI 0) (q := 14) dd_Md_spare_13 rfl (by decide) ?_
  refine zx_istore_4 (q := 16) dd_Md_spare_14 rfl (by decide) rfl ?_
  refine (fun hr => lo_Md_spare hf hr 5 0 (by omega)) ?_
  cases hz27 : pm_ntd I f (nI 128) 5
  · skip
    refine zx_iload_n (q := 54) dd_Md_spare_53 rfl rfl ?_
    refine zx_if_ne 59 (q := 57) dd_Md_spare_54 rfl (by decide) (fun hc2 => absurd (by decide) hc2) (fun hc2 => ?_)
    refine zx_iload_n (q := 58) dd_Md_spare_57 rfl rfl ?_
    exact zx_iret dd_Md_spare_58 rfl (hq _ (by first | (simp [pm_spare, hz27]; done) | (clear hq; simp_all [pm_spare]; done)))
  · skip
    refine zx_iload_n (q := 54) dd_Md_spare_53 rfl rfl ?_
    refine zx_if_ne 59 (q := 57) dd_Md_spare_54 rfl (by decide) (fun hc3 => ?_) (fun hc3 => absurd hc3 (by decide))
    refine zx_iincC_2 129 (q := 62) dd_Md_spare_59 rfl rfl (by decide) rfl ?_
    refine zx_goto 4 dd_Md_spare_62 (by decide) ?_
    refine zx_iload_n (q := 5) dd_Md_spare_4 rfl rfl ?_
    refine zx_sipush (nI 132) (q := 8) dd_Md_spare_5 rfl (by decide) ?_
    refine zx_icmp_ge 65 (q := 11) dd_Md_spare_8 rfl (by decide) (fun hc4 => absurd hc4 (by decide)) (fun hc4 => ?_)
    refine zx_iconst (nI 0) (q := 12) dd_Md_spare_11 rfl (by decide) ?_
    refine zx_istore_3 (q := 13) dd_Md_spare_12 rfl (by decide) rfl ?_
    refine zx_iconst (nI 0) (q := 14) dd_Md_spare_13 rfl (by decide) ?_
    refine zx_istore_4 (q := 16) dd_Md_spare_14 rfl (by decide) rfl ?_
    refine (fun hr => lo_Md_spare hf hr 5 0 (by omega)) ?_
    cases hz28 : pm_ntd I f (nI 129) 5
    · skip
      refine zx_iload_n (q := 54) dd_Md_spare_53 rfl rfl ?_
      refine zx_if_ne 59 (q := 57) dd_Md_spare_54 rfl (by decide) (fun hc5 => absurd (by decide) hc5) (fun hc5 => ?_)
      refine zx_iload_n (q := 58) dd_Md_spare_57 rfl rfl ?_
      exact zx_iret dd_Md_spare_58 rfl (hq _ (by first | (simp [pm_spare, hz27, hz28]; done) | (clear hq; simp_all [pm_spare]; done)))
    · skip
      refine zx_iload_n (q := 54) dd_Md_spare_53 rfl rfl ?_
      refine zx_if_ne 59 (q := 57) dd_Md_spare_54 rfl (by decide) (fun hc6 => ?_) (fun hc6 => absurd hc6 (by decide))
      refine zx_iincC_2 130 (q := 62) dd_Md_spare_59 rfl rfl (by decide) rfl ?_
      refine zx_goto 4 dd_Md_spare_62 (by decide) ?_
      refine zx_iload_n (q := 5) dd_Md_spare_4 rfl rfl ?_
      refine zx_sipush (nI 132) (q := 8) dd_Md_spare_5 rfl (by decide) ?_
      refine zx_icmp_ge 65 (q := 11) dd_Md_spare_8 rfl (by decide) (fun hc7 => absurd hc7 (by decide)) (fun hc7 => ?_)
      refine zx_iconst (nI 0) (q := 12) dd_Md_spare_11 rfl (by decide) ?_
      refine zx_istore_3 (q := 13) dd_Md_spare_12 rfl (by decide) rfl ?_
      refine zx_iconst (nI 0) (q := 14) dd_Md_spare_13 rfl (by decide) ?_
      refine zx_istore_4 (q := 16) dd_Md_spare_14 rfl (by decide) rfl ?_
      refine (fun hr => lo_Md_spare hf hr 5 0 (by omega)) ?_
      cases hz29 : pm_ntd I f (nI 130) 5
      · skip
        refine zx_iload_n (q := 54) dd_Md_spare_53 rfl rfl ?_
        refine zx_if_ne 59 (q := 57) dd_Md_spare_54 rfl (by decide) (fun hc8 => absurd (by decide) hc8) (fun hc8 => ?_)
        refine zx_iload_n (q := 58) dd_Md_spare_57 rfl rfl ?_
        exact zx_iret dd_Md_spare_58 rfl (hq _ (by first | (simp [pm_spare, hz27, hz28, hz29]; done) | (clear hq; simp_all [pm_spare]; done)))
      · skip
        refine zx_iload_n (q := 54) dd_Md_spare_53 rfl rfl ?_
        refine zx_if_ne 59 (q := 57) dd_Md_spare_54 rfl (by decide) (fun hc9 => ?_) (fun hc9 => absurd hc9 (by decide))
        refine zx_iincC_2 131 (q := 62) dd_Md_spare_59 rfl rfl (by decide) rfl ?_
        refine zx_goto 4 dd_Md_spare_62 (by decide) ?_
        refine zx_iload_n (q := 5) dd_Md_spare_4 rfl rfl ?_
        refine zx_sipush (nI 132) (q := 8) dd_Md_spare_5 rfl (by decide) ?_
        refine zx_icmp_ge 65 (q := 11) dd_Md_spare_8 rfl (by decide) (fun hc10 => absurd hc10 (by decide)) (fun hc10 => ?_)
        refine zx_iconst (nI 0) (q := 12) dd_Md_spare_11 rfl (by decide) ?_
        refine zx_istore_3 (q := 13) dd_Md_spare_12 rfl (by decide) rfl ?_
        refine zx_iconst (nI 0) (q := 14) dd_Md_spare_13 rfl (by decide) ?_
        refine zx_istore_4 (q := 16) dd_Md_spare_14 rfl (by decide) rfl ?_
        refine (fun hr => lo_Md_spare hf hr 5 0 (by omega)) ?_
        cases hz30 : pm_ntd I f (nI 131) 5
        · skip
          refine zx_iload_n (q := 54) dd_Md_spare_53 rfl rfl ?_
          refine zx_if_ne 59 (q := 57) dd_Md_spare_54 rfl (by decide) (fun hc11 => absurd (by decide) hc11) (fun hc11 => ?_)
          refine zx_iload_n (q := 58) dd_Md_spare_57 rfl rfl ?_
          exact zx_iret dd_Md_spare_58 rfl (hq _ (by first | (simp [pm_spare, hz27, hz28, hz29, hz30]; done) | (clear hq; simp_all [pm_spare]; done)))
        · skip
          refine zx_iload_n (q := 54) dd_Md_spare_53 rfl rfl ?_
          refine zx_if_ne 59 (q := 57) dd_Md_spare_54 rfl (by decide) (fun hc12 => ?_) (fun hc12 => absurd hc12 (by decide))
          refine zx_iincC_2 132 (q := 62) dd_Md_spare_59 rfl rfl (by decide) rfl ?_
          refine zx_goto 4 dd_Md_spare_62 (by decide) ?_
          refine zx_iload_n (q := 5) dd_Md_spare_4 rfl rfl ?_
          refine zx_sipush (nI 132) (q := 8) dd_Md_spare_5 rfl (by decide) ?_
          refine zx_icmp_ge 65 (q := 11) dd_Md_spare_8 rfl (by decide) (fun hc13 => ?_) (fun hc13 => absurd (by decide) hc13)
          refine zx_iconst (-1) (q := 66) dd_Md_spare_65 rfl (by decide) ?_
          exact zx_iret dd_Md_spare_66 rfl (hq _ (by first | (simp [pm_spare, hz27, hz28, hz29, hz30]; done) | (clear hq; simp_all [pm_spare]; done)))
set_option maxRecDepth 100000 in
set_option maxHeartbeats 4000000 in
theorem ok_Md_claimed {E : zxE} {b n : Nat} {B : zB} {F : Nat → zFn} {D : zMd} {Q : Option Value → zxH → Nat → Prop} {f s : Nat} {src : Int32} {d : Int64} (hf : f < 5) (hs : s < 5) (hw : D.2.1 ≤ 48) (hq : ∀ D', pm_claimed D f s src d = D' → D'.2.1 ≤ 48 → Q none (zs b (B, F, D')) n) : zx_Ok E my_Md_claimed mi_Md_claimed [.ref (b + 71), .int (nI f), .int (nI s), .int src, .long d] (zs b (B, F, D)) n Q := by
  obtain ⟨t, fr, lo, I, J⟩ := D
  refine zx_start [some (.ref (b + 71)), some (.int (nI f)), some (.int (nI s)), some (.int src), some (.long d), none, none] (by decide) rfl rfl (Nat.le_of_ble_eq_true rfl) rfl ?_
  refine zx_aload_n (q := 1) dd_Md_claimed_0 rfl rfl ?_
  refine zx_get (q := 4) dd_Md_claimed_1 rfl fl_Md_27 at_m rfl ?_
  refine zx_iconst (nI 5) (q := 5) dd_Md_claimed_4 rfl (by decide) ?_
  refine zx_iload_n (q := 6) dd_Md_claimed_5 rfl rfl ?_
  refine zx_imul (q := 7) dd_Md_claimed_6 rfl ?_
  refine zx_topi (pk_mul _ _) ?_
  refine zx_iload_n (q := 8) dd_Md_claimed_7 rfl rfl ?_
  refine zx_iadd (q := 9) dd_Md_claimed_8 rfl ?_
  refine zx_topi (nI_add _ _) ?_
  refine zx_iload_n (q := 10) dd_Md_claimed_9 rfl rfl ?_
  refine zx_iast (q := 11) dd_Md_claimed_10 rfl at_m5 rfl (by omega) (by decide) up_m5 ?_
  refine zx_aload_n (q := 12) dd_Md_claimed_11 rfl rfl ?_
  refine zx_get (q := 15) dd_Md_claimed_12 rfl fl_Md_7 at_m rfl ?_
  refine zx_iload_n (q := 16) dd_Md_claimed_15 rfl rfl ?_
  refine zx_iald (q := 17) dd_Md_claimed_16 rfl at_m0 rfl (by omega) (by decide) ?_
  refine zx_topr (I := I) (fun j => by simp [up2_r]) ?_
  refine zx_iconst (nI 3) (q := 18) dd_Md_claimed_17 rfl (by decide) ?_
  refine zx_icmp_eq 31 (q := 21) dd_Md_claimed_18 rfl (by decide) (fun hc1 => ?_) (fun hc1 => ?_)
  · skip
    exact zx_vret dd_Md_claimed_31 rfl (hq _ (by first | (simp [pm_claimed, eq_true hc1]; done) | (clear hq; simp_all [pm_claimed]; done)) hw)
  · skip
    refine zx_iload_n (q := 22) dd_Md_claimed_21 rfl rfl ?_
    refine zx_aload_n (q := 23) dd_Md_claimed_22 rfl rfl ?_
    refine zx_get (q := 26) dd_Md_claimed_23 rfl fl_Md_13 at_m rfl ?_
    refine zx_iload_n (q := 27) dd_Md_claimed_26 rfl rfl ?_
    refine zx_iald (q := 28) dd_Md_claimed_27 rfl at_m1 rfl (by omega) (by decide) ?_
    refine zx_topr (I := I) (fun j => by simp [up2_r]) ?_
    refine zx_icmp_eq 32 (q := 31) dd_Md_claimed_28 rfl (by decide) (fun hc2 => ?_) (fun hc2 => ?_)
    · skip
      refine zx_aload_n (q := 33) dd_Md_claimed_32 rfl rfl ?_
      refine zx_get (q := 36) dd_Md_claimed_33 rfl fl_Md_16 at_m rfl ?_
      refine zx_iload_n (q := 37) dd_Md_claimed_36 rfl rfl ?_
      refine zx_lald (q := 38) dd_Md_claimed_37 rfl at_m2 rfl (by omega) (by decide) ?_
      refine zx_lload (q := 40) dd_Md_claimed_38 rfl rfl ?_
      refine zx_cS2i (q := 43) dd_Md_claimed_40 rfl cs_Md_claimed_162 ⟨rfl, rfl⟩ (Nat.le_of_ble_eq_true rfl) ⟨Nat.zero_le _, Nat.zero_le _⟩ (ok_Md_below fun r31 he31 => ⟨_, rfl, ?_⟩)
      refine zx_if_eq 82 (q := 46) dd_Md_claimed_43 rfl (by decide) (fun hc3 => ?_) (fun hc3 => ?_)
      · skip
        replace hc3 := zb_0.mp hc3
        refine zx_aload_n (q := 83) dd_Md_claimed_82 rfl rfl ?_
        refine zx_get (q := 86) dd_Md_claimed_83 rfl fl_Md_42 at_m rfl ?_
        refine zx_iload_n (q := 87) dd_Md_claimed_86 rfl rfl ?_
        refine zx_aload_n (q := 88) dd_Md_claimed_87 rfl rfl ?_
        refine zx_get (q := 91) dd_Md_claimed_88 rfl fl_Md_39 at_m rfl ?_
        refine zx_iload_n (q := 92) dd_Md_claimed_91 rfl rfl ?_
        refine zx_iald (q := 93) dd_Md_claimed_92 rfl at_m9 rfl (by omega) (by decide) ?_
        refine zx_topr (I := I) (fun j => by simp [up2_r]) ?_
        refine zx_if_le 101 (q := 96) dd_Md_claimed_93 rfl (by decide) (fun hc4 => ?_) (fun hc4 => ?_)
        · skip
          refine zx_aload_n (q := 102) dd_Md_claimed_101 rfl rfl ?_
          refine zx_get (q := 105) dd_Md_claimed_102 rfl fl_Md_42 at_m rfl ?_
          refine zx_iload_n (q := 106) dd_Md_claimed_105 rfl rfl ?_
          refine zx_iald (q := 107) dd_Md_claimed_106 rfl at_m10 rfl (by omega) (by decide) ?_
          refine zx_topr (I := I) (fun j => by simp [up2_r]) ?_
          refine zx_iast (q := 108) dd_Md_claimed_107 rfl at_m10 rfl (by omega) (by decide) up_m10 ?_
          refine zx_aload_n (q := 109) dd_Md_claimed_108 rfl rfl ?_
          refine zx_get (q := 112) dd_Md_claimed_109 rfl fl_Md_39 at_m rfl ?_
          refine zx_iload_n (q := 113) dd_Md_claimed_112 rfl rfl ?_
          refine zx_iconst (nI 0) (q := 114) dd_Md_claimed_113 rfl (by decide) ?_
          refine zx_iast (q := 115) dd_Md_claimed_114 rfl at_m9 rfl (by omega) (by decide) up_m9 ?_
          refine zx_aload_n (q := 116) dd_Md_claimed_115 rfl rfl ?_
          refine zx_get (q := 119) dd_Md_claimed_116 rfl fl_Md_63 at_m rfl ?_
          refine zx_iload_n (q := 120) dd_Md_claimed_119 rfl rfl ?_
          refine zx_iconst (nI 0) (q := 121) dd_Md_claimed_120 rfl (by decide) ?_
          refine zx_iast (q := 122) dd_Md_claimed_121 rfl at_m17 rfl (by omega) (by decide) up_m17 ?_
          refine zx_aload_n (q := 123) dd_Md_claimed_122 rfl rfl ?_
          refine zx_get (q := 126) dd_Md_claimed_123 rfl fl_Md_16 at_m rfl ?_
          refine zx_iload_n (q := 127) dd_Md_claimed_126 rfl rfl ?_
          refine zx_lald (q := 128) dd_Md_claimed_127 rfl at_m2 rfl (by omega) (by decide) ?_
          refine zx_lconst (lN 0) (q := 129) dd_Md_claimed_128 rfl (by decide) ?_
          refine zx_lcmp (q := 130) dd_Md_claimed_129 rfl ?_
          refine zx_if_ge 141 (q := 133) dd_Md_claimed_130 rfl (by decide) (fun hc5 => ?_) (fun hc5 => ?_)
          · skip
            replace hc5 := lcmp_ge.mp hc5
            refine zx_iconst (-1) (q := 142) dd_Md_claimed_141 rfl (by decide) ?_
            refine zx_istore_6 (q := 144) dd_Md_claimed_142 rfl (by decide) rfl ?_
            refine zx_aload_n (q := 145) dd_Md_claimed_144 rfl rfl ?_
            refine zx_get (q := 148) dd_Md_claimed_145 rfl fl_Md_7 at_m rfl ?_
            refine zx_iload_n (q := 149) dd_Md_claimed_148 rfl rfl ?_
            refine zx_iload (q := 151) dd_Md_claimed_149 rfl rfl ?_
            refine zx_if_ge 158 (q := 154) dd_Md_claimed_151 rfl (by decide) (fun hc6 => absurd hc6 (by decide)) (fun hc6 => ?_)
            refine zx_iconst (nI 3) (q := 155) dd_Md_claimed_154 rfl (by decide) ?_
            refine zx_goto 159 dd_Md_claimed_155 (by decide) ?_
            refine zx_iast (q := 160) dd_Md_claimed_159 rfl at_m0 rfl (by omega) (by decide) up_m0 ?_
            refine zx_aload_n (q := 161) dd_Md_claimed_160 rfl rfl ?_
            refine zx_get (q := 164) dd_Md_claimed_161 rfl fl_Md_13 at_m rfl ?_
            refine zx_iload_n (q := 165) dd_Md_claimed_164 rfl rfl ?_
            refine zx_iload (q := 167) dd_Md_claimed_165 rfl rfl ?_
            refine zx_if_ge 179 (q := 170) dd_Md_claimed_167 rfl (by decide) (fun hc7 => absurd hc7 (by decide)) (fun hc7 => ?_)
            refine zx_aload_n (q := 171) dd_Md_claimed_170 rfl rfl ?_
            refine zx_get (q := 174) dd_Md_claimed_171 rfl fl_Md_13 at_m rfl ?_
            refine zx_iload_n (q := 175) dd_Md_claimed_174 rfl rfl ?_
            refine zx_iald (q := 176) dd_Md_claimed_175 rfl at_m1 rfl (by omega) (by decide) ?_
            refine zx_topr (I := I) (fun j => by simp [up2_r]) ?_
            refine zx_goto 181 dd_Md_claimed_176 (by decide) ?_
            refine zx_iast (q := 182) dd_Md_claimed_181 rfl at_m1 rfl (by omega) (by decide) up_m1 ?_
            refine zx_aload_n (q := 183) dd_Md_claimed_182 rfl rfl ?_
            refine zx_get (q := 186) dd_Md_claimed_183 rfl fl_Md_24 at_m rfl ?_
            refine zx_iload_n (q := 187) dd_Md_claimed_186 rfl rfl ?_
            refine zx_aload_n (q := 188) dd_Md_claimed_187 rfl rfl ?_
            refine zx_get (q := 191) dd_Md_claimed_188 rfl fl_Md_153 at_m rfl ?_
            refine zx_sipush (nI 250) (q := 194) dd_Md_claimed_191 rfl (by decide) ?_
            refine zx_iadd (q := 195) dd_Md_claimed_194 rfl ?_
            refine zx_iast (q := 196) dd_Md_claimed_195 rfl at_m4 rfl (by omega) (by decide) up_m4 ?_
            refine zx_aload_n (q := 197) dd_Md_claimed_196 rfl rfl ?_
            refine zx_iload_n (q := 198) dd_Md_claimed_197 rfl rfl ?_
            refine zx_cV1v (q := 201) dd_Md_claimed_198 rfl cv_Md_claimed_144 ⟨rfl, rfl⟩ at_m rfl rfl (Nat.le_of_ble_eq_true rfl) ⟨Nat.zero_le _, Nat.zero_le _⟩ (ok_Md_putClaim hf hw fun D32 he32 hw32 => ⟨rfl, ?_⟩)
            obtain ⟨t32, fr32, lo32, I32, J32⟩ := D32
            exact zx_vret dd_Md_claimed_201 rfl (hq _ (by first | (simp [pm_claimed, hc1, eq_true hc2, he31, hc3, hc4, hc5, he32]; done) | (clear hq; simp_all [pm_claimed]; done)) hw32)
          · skip
            replace hc5 := lcmp_nge.mp hc5
            refine zx_aload_n (q := 134) dd_Md_claimed_133 rfl rfl ?_
            refine zx_iload_n (q := 135) dd_Md_claimed_134 rfl rfl ?_
            refine zx_cV1i (q := 138) dd_Md_claimed_135 rfl cv_Md_claimed_166 ⟨rfl, rfl⟩ at_m rfl rfl (Nat.le_of_ble_eq_true rfl) ⟨Nat.zero_le _, Nat.zero_le _⟩ (ok_Md_spare hf fun r33 he33 => ⟨_, rfl, ?_⟩)
            simp only [pm_spare_up (show (10 : Nat) ≠ 5 by decide), pm_spare_up (show (9 : Nat) ≠ 5 by decide), pm_spare_up (show (17 : Nat) ≠ 5 by decide)] at he33
            refine zx_goto 142 dd_Md_claimed_138 (by decide) ?_
            refine zx_istore_6 (q := 144) dd_Md_claimed_142 rfl (by decide) rfl ?_
            refine zx_aload_n (q := 145) dd_Md_claimed_144 rfl rfl ?_
            refine zx_get (q := 148) dd_Md_claimed_145 rfl fl_Md_7 at_m rfl ?_
            refine zx_iload_n (q := 149) dd_Md_claimed_148 rfl rfl ?_
            refine zx_iload (q := 151) dd_Md_claimed_149 rfl rfl ?_
            refine zx_if_ge 158 (q := 154) dd_Md_claimed_151 rfl (by decide) (fun hc8 => ?_) (fun hc8 => ?_)
            · skip
              replace hc8 : ¬ r33 < 0 := Int32.not_lt.mpr hc8
              refine zx_iconst (nI 1) (q := 159) dd_Md_claimed_158 rfl (by decide) ?_
              refine zx_iast (q := 160) dd_Md_claimed_159 rfl at_m0 rfl (by omega) (by decide) up_m0 ?_
              refine zx_aload_n (q := 161) dd_Md_claimed_160 rfl rfl ?_
              refine zx_get (q := 164) dd_Md_claimed_161 rfl fl_Md_13 at_m rfl ?_
              refine zx_iload_n (q := 165) dd_Md_claimed_164 rfl rfl ?_
              refine zx_iload (q := 167) dd_Md_claimed_165 rfl rfl ?_
              refine zx_if_ge 179 (q := 170) dd_Md_claimed_167 rfl (by decide) (fun hc9 => ?_) (fun hc9 => absurd (Int32.not_lt.mp hc8) hc9)
              refine zx_iload (q := 181) dd_Md_claimed_179 rfl rfl ?_
              refine zx_iast (q := 182) dd_Md_claimed_181 rfl at_m1 rfl (by omega) (by decide) up_m1 ?_
              refine zx_aload_n (q := 183) dd_Md_claimed_182 rfl rfl ?_
              refine zx_get (q := 186) dd_Md_claimed_183 rfl fl_Md_24 at_m rfl ?_
              refine zx_iload_n (q := 187) dd_Md_claimed_186 rfl rfl ?_
              refine zx_aload_n (q := 188) dd_Md_claimed_187 rfl rfl ?_
              refine zx_get (q := 191) dd_Md_claimed_188 rfl fl_Md_153 at_m rfl ?_
              refine zx_sipush (nI 250) (q := 194) dd_Md_claimed_191 rfl (by decide) ?_
              refine zx_iadd (q := 195) dd_Md_claimed_194 rfl ?_
              refine zx_iast (q := 196) dd_Md_claimed_195 rfl at_m4 rfl (by omega) (by decide) up_m4 ?_
              refine zx_aload_n (q := 197) dd_Md_claimed_196 rfl rfl ?_
              refine zx_iload_n (q := 198) dd_Md_claimed_197 rfl rfl ?_
              refine zx_cV1v (q := 201) dd_Md_claimed_198 rfl cv_Md_claimed_144 ⟨rfl, rfl⟩ at_m rfl rfl (Nat.le_of_ble_eq_true rfl) ⟨Nat.zero_le _, Nat.zero_le _⟩ (ok_Md_putClaim hf hw fun D34 he34 hw34 => ⟨rfl, ?_⟩)
              obtain ⟨t34, fr34, lo34, I34, J34⟩ := D34
              exact zx_vret dd_Md_claimed_201 rfl (hq _ (by first | (simp [pm_claimed, hc1, eq_true hc2, he31, hc3, hc4, hc5, he33, hc8, he34]; done) | (clear hq; simp_all [pm_claimed]; done)) hw34)
            · skip
              replace hc8 : r33 < 0 := Int32.not_le.mp hc8
              refine zx_iconst (nI 3) (q := 155) dd_Md_claimed_154 rfl (by decide) ?_
              refine zx_goto 159 dd_Md_claimed_155 (by decide) ?_
              refine zx_iast (q := 160) dd_Md_claimed_159 rfl at_m0 rfl (by omega) (by decide) up_m0 ?_
              refine zx_aload_n (q := 161) dd_Md_claimed_160 rfl rfl ?_
              refine zx_get (q := 164) dd_Md_claimed_161 rfl fl_Md_13 at_m rfl ?_
              refine zx_iload_n (q := 165) dd_Md_claimed_164 rfl rfl ?_
              refine zx_iload (q := 167) dd_Md_claimed_165 rfl rfl ?_
              refine zx_if_ge 179 (q := 170) dd_Md_claimed_167 rfl (by decide) (fun hc10 => absurd hc10 (Int32.not_le.mpr hc8)) (fun hc10 => ?_)
              refine zx_aload_n (q := 171) dd_Md_claimed_170 rfl rfl ?_
              refine zx_get (q := 174) dd_Md_claimed_171 rfl fl_Md_13 at_m rfl ?_
              refine zx_iload_n (q := 175) dd_Md_claimed_174 rfl rfl ?_
              refine zx_iald (q := 176) dd_Md_claimed_175 rfl at_m1 rfl (by omega) (by decide) ?_
              refine zx_topr (I := I) (fun j => by simp [up2_r]) ?_
              refine zx_goto 181 dd_Md_claimed_176 (by decide) ?_
              refine zx_iast (q := 182) dd_Md_claimed_181 rfl at_m1 rfl (by omega) (by decide) up_m1 ?_
              refine zx_aload_n (q := 183) dd_Md_claimed_182 rfl rfl ?_
              refine zx_get (q := 186) dd_Md_claimed_183 rfl fl_Md_24 at_m rfl ?_
              refine zx_iload_n (q := 187) dd_Md_claimed_186 rfl rfl ?_
              refine zx_aload_n (q := 188) dd_Md_claimed_187 rfl rfl ?_
              refine zx_get (q := 191) dd_Md_claimed_188 rfl fl_Md_153 at_m rfl ?_
              refine zx_sipush (nI 250) (q := 194) dd_Md_claimed_191 rfl (by decide) ?_
              refine zx_iadd (q := 195) dd_Md_claimed_194 rfl ?_
              refine zx_iast (q := 196) dd_Md_claimed_195 rfl at_m4 rfl (by omega) (by decide) up_m4 ?_
              refine zx_aload_n (q := 197) dd_Md_claimed_196 rfl rfl ?_
              refine zx_iload_n (q := 198) dd_Md_claimed_197 rfl rfl ?_
              refine zx_cV1v (q := 201) dd_Md_claimed_198 rfl cv_Md_claimed_144 ⟨rfl, rfl⟩ at_m rfl rfl (Nat.le_of_ble_eq_true rfl) ⟨Nat.zero_le _, Nat.zero_le _⟩ (ok_Md_putClaim hf hw fun D35 he35 hw35 => ⟨rfl, ?_⟩)
              obtain ⟨t35, fr35, lo35, I35, J35⟩ := D35
              exact zx_vret dd_Md_claimed_201 rfl (hq _ (by first | (simp [pm_claimed, hc1, eq_true hc2, he31, hc3, hc4, hc5, he33, hc8, he35]; done) | (clear hq; simp_all [pm_claimed]; done)) hw35)
        · skip
          refine zx_bipush (nI 13) (q := 98) dd_Md_claimed_96 rfl (by decide) ?_
          refine zx_goto 107 dd_Md_claimed_98 (by decide) ?_
          refine zx_iast (q := 108) dd_Md_claimed_107 rfl at_m10 rfl (by omega) (by decide) up_m10 ?_
          refine zx_aload_n (q := 109) dd_Md_claimed_108 rfl rfl ?_
          refine zx_get (q := 112) dd_Md_claimed_109 rfl fl_Md_39 at_m rfl ?_
          refine zx_iload_n (q := 113) dd_Md_claimed_112 rfl rfl ?_
          refine zx_iconst (nI 0) (q := 114) dd_Md_claimed_113 rfl (by decide) ?_
          refine zx_iast (q := 115) dd_Md_claimed_114 rfl at_m9 rfl (by omega) (by decide) up_m9 ?_
          refine zx_aload_n (q := 116) dd_Md_claimed_115 rfl rfl ?_
          refine zx_get (q := 119) dd_Md_claimed_116 rfl fl_Md_63 at_m rfl ?_
          refine zx_iload_n (q := 120) dd_Md_claimed_119 rfl rfl ?_
          refine zx_iconst (nI 0) (q := 121) dd_Md_claimed_120 rfl (by decide) ?_
          refine zx_iast (q := 122) dd_Md_claimed_121 rfl at_m17 rfl (by omega) (by decide) up_m17 ?_
          refine zx_aload_n (q := 123) dd_Md_claimed_122 rfl rfl ?_
          refine zx_get (q := 126) dd_Md_claimed_123 rfl fl_Md_16 at_m rfl ?_
          refine zx_iload_n (q := 127) dd_Md_claimed_126 rfl rfl ?_
          refine zx_lald (q := 128) dd_Md_claimed_127 rfl at_m2 rfl (by omega) (by decide) ?_
          refine zx_lconst (lN 0) (q := 129) dd_Md_claimed_128 rfl (by decide) ?_
          refine zx_lcmp (q := 130) dd_Md_claimed_129 rfl ?_
          refine zx_if_ge 141 (q := 133) dd_Md_claimed_130 rfl (by decide) (fun hc11 => ?_) (fun hc11 => ?_)
          · skip
            replace hc11 := lcmp_ge.mp hc11
            refine zx_iconst (-1) (q := 142) dd_Md_claimed_141 rfl (by decide) ?_
            refine zx_istore_6 (q := 144) dd_Md_claimed_142 rfl (by decide) rfl ?_
            refine zx_aload_n (q := 145) dd_Md_claimed_144 rfl rfl ?_
            refine zx_get (q := 148) dd_Md_claimed_145 rfl fl_Md_7 at_m rfl ?_
            refine zx_iload_n (q := 149) dd_Md_claimed_148 rfl rfl ?_
            refine zx_iload (q := 151) dd_Md_claimed_149 rfl rfl ?_
            refine zx_if_ge 158 (q := 154) dd_Md_claimed_151 rfl (by decide) (fun hc12 => absurd hc12 (by decide)) (fun hc12 => ?_)
            refine zx_iconst (nI 3) (q := 155) dd_Md_claimed_154 rfl (by decide) ?_
            refine zx_goto 159 dd_Md_claimed_155 (by decide) ?_
            refine zx_iast (q := 160) dd_Md_claimed_159 rfl at_m0 rfl (by omega) (by decide) up_m0 ?_
            refine zx_aload_n (q := 161) dd_Md_claimed_160 rfl rfl ?_
            refine zx_get (q := 164) dd_Md_claimed_161 rfl fl_Md_13 at_m rfl ?_
            refine zx_iload_n (q := 165) dd_Md_claimed_164 rfl rfl ?_
            refine zx_iload (q := 167) dd_Md_claimed_165 rfl rfl ?_
            refine zx_if_ge 179 (q := 170) dd_Md_claimed_167 rfl (by decide) (fun hc13 => absurd hc13 (by decide)) (fun hc13 => ?_)
            refine zx_aload_n (q := 171) dd_Md_claimed_170 rfl rfl ?_
            refine zx_get (q := 174) dd_Md_claimed_171 rfl fl_Md_13 at_m rfl ?_
            refine zx_iload_n (q := 175) dd_Md_claimed_174 rfl rfl ?_
            refine zx_iald (q := 176) dd_Md_claimed_175 rfl at_m1 rfl (by omega) (by decide) ?_
            refine zx_topr (I := I) (fun j => by simp [up2_r]) ?_
            refine zx_goto 181 dd_Md_claimed_176 (by decide) ?_
            refine zx_iast (q := 182) dd_Md_claimed_181 rfl at_m1 rfl (by omega) (by decide) up_m1 ?_
            refine zx_aload_n (q := 183) dd_Md_claimed_182 rfl rfl ?_
            refine zx_get (q := 186) dd_Md_claimed_183 rfl fl_Md_24 at_m rfl ?_
            refine zx_iload_n (q := 187) dd_Md_claimed_186 rfl rfl ?_
            refine zx_aload_n (q := 188) dd_Md_claimed_187 rfl rfl ?_
            refine zx_get (q := 191) dd_Md_claimed_188 rfl fl_Md_153 at_m rfl ?_
            refine zx_sipush (nI 250) (q := 194) dd_Md_claimed_191 rfl (by decide) ?_
            refine zx_iadd (q := 195) dd_Md_claimed_194 rfl ?_
            refine zx_iast (q := 196) dd_Md_claimed_195 rfl at_m4 rfl (by omega) (by decide) up_m4 ?_
            refine zx_aload_n (q := 197) dd_Md_claimed_196 rfl rfl ?_
            refine zx_iload_n (q := 198) dd_Md_claimed_197 rfl rfl ?_
            refine zx_cV1v (q := 201) dd_Md_claimed_198 rfl cv_Md_claimed_144 ⟨rfl, rfl⟩ at_m rfl rfl (Nat.le_of_ble_eq_true rfl) ⟨Nat.zero_le _, Nat.zero_le _⟩ (ok_Md_putClaim hf hw fun D36 he36 hw36 => ⟨rfl, ?_⟩)
            obtain ⟨t36, fr36, lo36, I36, J36⟩ := D36
            exact zx_vret dd_Md_claimed_201 rfl (hq _ (by first | (simp [pm_claimed, hc1, eq_true hc2, he31, hc3, hc4, hc11, he36]; done) | (clear hq; simp_all [pm_claimed]; done)) hw36)
          · skip
            replace hc11 := lcmp_nge.mp hc11
            refine zx_aload_n (q := 134) dd_Md_claimed_133 rfl rfl ?_
            refine zx_iload_n (q := 135) dd_Md_claimed_134 rfl rfl ?_
            refine zx_cV1i (q := 138) dd_Md_claimed_135 rfl cv_Md_claimed_166 ⟨rfl, rfl⟩ at_m rfl rfl (Nat.le_of_ble_eq_true rfl) ⟨Nat.zero_le _, Nat.zero_le _⟩ (ok_Md_spare hf fun r37 he37 => ⟨_, rfl, ?_⟩)
            simp only [pm_spare_up (show (10 : Nat) ≠ 5 by decide), pm_spare_up (show (9 : Nat) ≠ 5 by decide), pm_spare_up (show (17 : Nat) ≠ 5 by decide)] at he37
            refine zx_goto 142 dd_Md_claimed_138 (by decide) ?_
            refine zx_istore_6 (q := 144) dd_Md_claimed_142 rfl (by decide) rfl ?_
            refine zx_aload_n (q := 145) dd_Md_claimed_144 rfl rfl ?_
            refine zx_get (q := 148) dd_Md_claimed_145 rfl fl_Md_7 at_m rfl ?_
            refine zx_iload_n (q := 149) dd_Md_claimed_148 rfl rfl ?_
            refine zx_iload (q := 151) dd_Md_claimed_149 rfl rfl ?_
            refine zx_if_ge 158 (q := 154) dd_Md_claimed_151 rfl (by decide) (fun hc14 => ?_) (fun hc14 => ?_)
            · skip
              replace hc14 : ¬ r37 < 0 := Int32.not_lt.mpr hc14
              refine zx_iconst (nI 1) (q := 159) dd_Md_claimed_158 rfl (by decide) ?_
              refine zx_iast (q := 160) dd_Md_claimed_159 rfl at_m0 rfl (by omega) (by decide) up_m0 ?_
              refine zx_aload_n (q := 161) dd_Md_claimed_160 rfl rfl ?_
              refine zx_get (q := 164) dd_Md_claimed_161 rfl fl_Md_13 at_m rfl ?_
              refine zx_iload_n (q := 165) dd_Md_claimed_164 rfl rfl ?_
              refine zx_iload (q := 167) dd_Md_claimed_165 rfl rfl ?_
              refine zx_if_ge 179 (q := 170) dd_Md_claimed_167 rfl (by decide) (fun hc15 => ?_) (fun hc15 => absurd (Int32.not_lt.mp hc14) hc15)
              refine zx_iload (q := 181) dd_Md_claimed_179 rfl rfl ?_
              refine zx_iast (q := 182) dd_Md_claimed_181 rfl at_m1 rfl (by omega) (by decide) up_m1 ?_
              refine zx_aload_n (q := 183) dd_Md_claimed_182 rfl rfl ?_
              refine zx_get (q := 186) dd_Md_claimed_183 rfl fl_Md_24 at_m rfl ?_
              refine zx_iload_n (q := 187) dd_Md_claimed_186 rfl rfl ?_
              refine zx_aload_n (q := 188) dd_Md_claimed_187 rfl rfl ?_
              refine zx_get (q := 191) dd_Md_claimed_188 rfl fl_Md_153 at_m rfl ?_
              refine zx_sipush (nI 250) (q := 194) dd_Md_claimed_191 rfl (by decide) ?_
              refine zx_iadd (q := 195) dd_Md_claimed_194 rfl ?_
              refine zx_iast (q := 196) dd_Md_claimed_195 rfl at_m4 rfl (by omega) (by decide) up_m4 ?_
              refine zx_aload_n (q := 197) dd_Md_claimed_196 rfl rfl ?_
              refine zx_iload_n (q := 198) dd_Md_claimed_197 rfl rfl ?_
              refine zx_cV1v (q := 201) dd_Md_claimed_198 rfl cv_Md_claimed_144 ⟨rfl, rfl⟩ at_m rfl rfl (Nat.le_of_ble_eq_true rfl) ⟨Nat.zero_le _, Nat.zero_le _⟩ (ok_Md_putClaim hf hw fun D38 he38 hw38 => ⟨rfl, ?_⟩)
              obtain ⟨t38, fr38, lo38, I38, J38⟩ := D38
              exact zx_vret dd_Md_claimed_201 rfl (hq _ (by first | (simp [pm_claimed, hc1, eq_true hc2, he31, hc3, hc4, hc11, he37, hc14, he38]; done) | (clear hq; simp_all [pm_claimed]; done)) hw38)
            · skip
              replace hc14 : r37 < 0 := Int32.not_le.mp hc14
              refine zx_iconst (nI 3) (q := 155) dd_Md_claimed_154 rfl (by decide) ?_
              refine zx_goto 159 dd_Md_claimed_155 (by decide) ?_
              refine zx_iast (q := 160) dd_Md_claimed_159 rfl at_m0 rfl (by omega) (by decide) up_m0 ?_
              refine zx_aload_n (q := 161) dd_Md_claimed_160 rfl rfl ?_
              refine zx_get (q := 164) dd_Md_claimed_161 rfl fl_Md_13 at_m rfl ?_
              refine zx_iload_n (q := 165) dd_Md_claimed_164 rfl rfl ?_
              refine zx_iload (q := 167) dd_Md_claimed_165 rfl rfl ?_
              refine zx_if_ge 179 (q := 170) dd_Md_claimed_167 rfl (by decide) (fun hc16 => absurd hc16 (Int32.not_le.mpr hc14)) (fun hc16 => ?_)
              refine zx_aload_n (q := 171) dd_Md_claimed_170 rfl rfl ?_
              refine zx_get (q := 174) dd_Md_claimed_171 rfl fl_Md_13 at_m rfl ?_
              refine zx_iload_n (q := 175) dd_Md_claimed_174 rfl rfl ?_
              refine zx_iald (q := 176) dd_Md_claimed_175 rfl at_m1 rfl (by omega) (by decide) ?_
              refine zx_topr (I := I) (fun j => by simp [up2_r]) ?_
              refine zx_goto 181 dd_Md_claimed_176 (by decide) ?_
              refine zx_iast (q := 182) dd_Md_claimed_181 rfl at_m1 rfl (by omega) (by decide) up_m1 ?_
              refine zx_aload_n (q := 183) dd_Md_claimed_182 rfl rfl ?_
              refine zx_get (q := 186) dd_Md_claimed_183 rfl fl_Md_24 at_m rfl ?_
              refine zx_iload_n (q := 187) dd_Md_claimed_186 rfl rfl ?_
              refine zx_aload_n (q := 188) dd_Md_claimed_187 rfl rfl ?_
              refine zx_get (q := 191) dd_Md_claimed_188 rfl fl_Md_153 at_m rfl ?_
              refine zx_sipush (nI 250) (q := 194) dd_Md_claimed_191 rfl (by decide) ?_
              refine zx_iadd (q := 195) dd_Md_claimed_194 rfl ?_
              refine zx_iast (q := 196) dd_Md_claimed_195 rfl at_m4 rfl (by omega) (by decide) up_m4 ?_
              refine zx_aload_n (q := 197) dd_Md_claimed_196 rfl rfl ?_
              refine zx_iload_n (q := 198) dd_Md_claimed_197 rfl rfl ?_
              refine zx_cV1v (q := 201) dd_Md_claimed_198 rfl cv_Md_claimed_144 ⟨rfl, rfl⟩ at_m rfl rfl (Nat.le_of_ble_eq_true rfl) ⟨Nat.zero_le _, Nat.zero_le _⟩ (ok_Md_putClaim hf hw fun D39 he39 hw39 => ⟨rfl, ?_⟩)
              obtain ⟨t39, fr39, lo39, I39, J39⟩ := D39
              exact zx_vret dd_Md_claimed_201 rfl (hq _ (by first | (simp [pm_claimed, hc1, eq_true hc2, he31, hc3, hc4, hc11, he37, hc14, he39]; done) | (clear hq; simp_all [pm_claimed]; done)) hw39)
      · skip
        replace hc3 := zb_n0.mp hc3
        refine zx_aload_n (q := 47) dd_Md_claimed_46 rfl rfl ?_
        refine zx_get (q := 50) dd_Md_claimed_47 rfl fl_Md_24 at_m rfl ?_
        refine zx_iload_n (q := 51) dd_Md_claimed_50 rfl rfl ?_
        refine zx_aload_n (q := 52) dd_Md_claimed_51 rfl rfl ?_
        refine zx_get (q := 55) dd_Md_claimed_52 rfl fl_Md_7 at_m rfl ?_
        refine zx_iload_n (q := 56) dd_Md_claimed_55 rfl rfl ?_
        refine zx_iald (q := 57) dd_Md_claimed_56 rfl at_m0 rfl (by omega) (by decide) ?_
        refine zx_topr (I := I) (fun j => by simp [up2_r]) ?_
        refine zx_iconst (nI 1) (q := 58) dd_Md_claimed_57 rfl (by decide) ?_
        refine zx_icmp_ne 72 (q := 61) dd_Md_claimed_58 rfl (by decide) (fun hc17 => ?_) (fun hc17 => ?_)
        · skip
          refine zx_aload_n (q := 73) dd_Md_claimed_72 rfl rfl ?_
          refine zx_get (q := 76) dd_Md_claimed_73 rfl fl_Md_24 at_m rfl ?_
          refine zx_iload_n (q := 77) dd_Md_claimed_76 rfl rfl ?_
          refine zx_iald (q := 78) dd_Md_claimed_77 rfl at_m4 rfl (by omega) (by decide) ?_
          refine zx_topr (I := I) (fun j => by simp [up2_r]) ?_
          refine zx_iast (q := 79) dd_Md_claimed_78 rfl at_m4 rfl (by omega) (by decide) up_m4 ?_
          refine zx_goto 196 dd_Md_claimed_79 (by decide) ?_
          refine zx_aload_n (q := 197) dd_Md_claimed_196 rfl rfl ?_
          refine zx_iload_n (q := 198) dd_Md_claimed_197 rfl rfl ?_
          refine zx_cV1v (q := 201) dd_Md_claimed_198 rfl cv_Md_claimed_144 ⟨rfl, rfl⟩ at_m rfl rfl (Nat.le_of_ble_eq_true rfl) ⟨Nat.zero_le _, Nat.zero_le _⟩ (ok_Md_putClaim hf hw fun D40 he40 hw40 => ⟨rfl, ?_⟩)
          obtain ⟨t40, fr40, lo40, I40, J40⟩ := D40
          exact zx_vret dd_Md_claimed_201 rfl (hq _ (by first | (simp [pm_claimed, hc1, eq_true hc2, he31, hc3, hc17, he40]; done) | (clear hq; simp_all [pm_claimed]; done)) hw40)
        · skip
          refine zx_aload_n (q := 62) dd_Md_claimed_61 rfl rfl ?_
          refine zx_get (q := 65) dd_Md_claimed_62 rfl fl_Md_153 at_m rfl ?_
          refine zx_sipush (nI 250) (q := 68) dd_Md_claimed_65 rfl (by decide) ?_
          refine zx_iadd (q := 69) dd_Md_claimed_68 rfl ?_
          refine zx_goto 78 dd_Md_claimed_69 (by decide) ?_
          refine zx_iast (q := 79) dd_Md_claimed_78 rfl at_m4 rfl (by omega) (by decide) up_m4 ?_
          refine zx_goto 196 dd_Md_claimed_79 (by decide) ?_
          refine zx_aload_n (q := 197) dd_Md_claimed_196 rfl rfl ?_
          refine zx_iload_n (q := 198) dd_Md_claimed_197 rfl rfl ?_
          refine zx_cV1v (q := 201) dd_Md_claimed_198 rfl cv_Md_claimed_144 ⟨rfl, rfl⟩ at_m rfl rfl (Nat.le_of_ble_eq_true rfl) ⟨Nat.zero_le _, Nat.zero_le _⟩ (ok_Md_putClaim hf hw fun D41 he41 hw41 => ⟨rfl, ?_⟩)
          obtain ⟨t41, fr41, lo41, I41, J41⟩ := D41
          exact zx_vret dd_Md_claimed_201 rfl (hq _ (by first | (simp [pm_claimed, hc1, eq_true hc2, he31, hc3, eq_true hc17, he41]; done) | (clear hq; simp_all [pm_claimed]; done)) hw41)
    · skip
      exact zx_vret dd_Md_claimed_31 rfl (hq _ (by first | (simp [pm_claimed, hc1, hc2]; done) | (clear hq; simp_all [pm_claimed]; done)) hw)
set_option maxRecDepth 100000 in
set_option maxHeartbeats 4000000 in
theorem ok_Md_reach {E : zxE} {b n : Nat} {B : zB} {F : Nat → zFn} {D : zMd} {Q : Option Value → zxH → Nat → Prop} {f c s : Nat} {fm tg src : Int32} {d : Int64} (hf : f < 5) (hs : s < 5) (hc : c ≤ 2) (hins : D.2.2.2.1 17 f = nI c) (hpk : ∃ s : Nat, s < 256 ∧ pm_pk (D.2.2.2.1 13 f) = nI s) (hexp : ∀ u, 2 * f ≤ u → u < 2 * f + c → ∃ e : Nat, 1 ≤ e ∧ e ≤ 7 ∧ D.2.2.2.1 22 u = nI e) (hw : D.2.1 ≤ 48) (hq : ∀ D', pm_reach D f c s fm tg src d = D' → D'.2.1 ≤ 48 → Q none (zs b (B, F, D')) n) : zx_Ok E my_Md_reach mi_Md_reach [.ref (b + 71), .int (nI f), .int (nI s), .int fm, .int tg, .int src, .long d] (zs b (B, F, D)) n Q := by
  obtain ⟨t, fr, lo, I, J⟩ := D
  refine zx_start [some (.ref (b + 71)), some (.int (nI f)), some (.int (nI s)), some (.int fm), some (.int tg), some (.int src), some (.long d), none] (by decide) rfl rfl (Nat.le_of_ble_eq_true rfl) rfl ?_
  refine zx_iload_n (q := 1) dd_Md_reach_0 rfl rfl ?_
  refine zx_sipush (nI 238) (q := 4) dd_Md_reach_1 rfl (by decide) ?_
  refine zx_icmp_ne 20 (q := 7) dd_Md_reach_4 rfl (by decide) (fun hc1 => ?_) (fun hc1 => ?_)
  · skip
    refine zx_iload_n (q := 21) dd_Md_reach_20 rfl rfl ?_
    refine zx_sipush (nI 234) (q := 24) dd_Md_reach_21 rfl (by decide) ?_
    refine zx_icmp_ne 35 (q := 27) dd_Md_reach_24 rfl (by decide) (fun hc2 => ?_) (fun hc2 => ?_)
    · skip
      refine zx_iload_n (q := 36) dd_Md_reach_35 rfl rfl ?_
      refine zx_sipush (nI 236) (q := 39) dd_Md_reach_36 rfl (by decide) ?_
      refine zx_icmp_ne 56 (q := 42) dd_Md_reach_39 rfl (by decide) (fun hc3 => ?_) (fun hc3 => ?_)
      · skip
        refine zx_aload_n (q := 57) dd_Md_reach_56 rfl rfl ?_
        refine zx_iload_n (q := 58) dd_Md_reach_57 rfl rfl ?_
        refine zx_iload (q := 60) dd_Md_reach_58 rfl rfl ?_
        refine zx_iload (q := 62) dd_Md_reach_60 rfl rfl ?_
        refine zx_lload (q := 64) dd_Md_reach_62 rfl rfl ?_
        refine zx_cV4v (q := 67) dd_Md_reach_64 rfl cv_Md_reach_150 ⟨rfl, rfl⟩ at_m rfl rfl (Nat.le_of_ble_eq_true rfl) ⟨Nat.zero_le _, Nat.zero_le _⟩ (ok_Md_packet hf hc hins hexp hw fun D42 he42 hw42 => ⟨rfl, ?_⟩)
        obtain ⟨t42, fr42, lo42, I42, J42⟩ := D42
        exact zx_vret dd_Md_reach_67 rfl (hq _ (by first | (simp [pm_reach, hc1, hc2, hc3, he42]; done) | (clear hq; simp_all [pm_reach]; done)) hw42)
      · skip
        refine zx_aload_n (q := 43) dd_Md_reach_42 rfl rfl ?_
        refine zx_iload_n (q := 44) dd_Md_reach_43 rfl rfl ?_
        refine zx_iload (q := 46) dd_Md_reach_44 rfl rfl ?_
        refine zx_iload (q := 48) dd_Md_reach_46 rfl rfl ?_
        refine zx_lload (q := 50) dd_Md_reach_48 rfl rfl ?_
        refine zx_cV4v (q := 53) dd_Md_reach_50 rfl cv_Md_reach_147 ⟨rfl, rfl⟩ at_m rfl rfl (Nat.le_of_ble_eq_true rfl) ⟨Nat.zero_le _, Nat.zero_le _⟩ (ok_Md_control hf hc hins hpk hw fun D43 he43 hw43 => ⟨rfl, ?_⟩)
        obtain ⟨t43, fr43, lo43, I43, J43⟩ := D43
        refine zx_goto 67 dd_Md_reach_53 (by decide) ?_
        exact zx_vret dd_Md_reach_67 rfl (hq _ (by first | (simp [pm_reach, hc1, hc2, eq_true hc3, he43]; done) | (clear hq; simp_all [pm_reach]; done)) hw43)
    · skip
      refine zx_aload_n (q := 28) dd_Md_reach_27 rfl rfl ?_
      refine zx_iload_n (q := 29) dd_Md_reach_28 rfl rfl ?_
      refine zx_cV1v (q := 32) dd_Md_reach_29 rfl cv_Md_reach_144 ⟨rfl, rfl⟩ at_m rfl rfl (Nat.le_of_ble_eq_true rfl) ⟨Nat.zero_le _, Nat.zero_le _⟩ (ok_Md_putClaim hf hw fun D44 he44 hw44 => ⟨rfl, ?_⟩)
      obtain ⟨t44, fr44, lo44, I44, J44⟩ := D44
      refine zx_goto 67 dd_Md_reach_32 (by decide) ?_
      exact zx_vret dd_Md_reach_67 rfl (hq _ (by first | (simp [pm_reach, hc1, eq_true hc2, he44]; done) | (clear hq; simp_all [pm_reach]; done)) hw44)
  · skip
    refine zx_aload_n (q := 8) dd_Md_reach_7 rfl rfl ?_
    refine zx_iload_n (q := 9) dd_Md_reach_8 rfl rfl ?_
    refine zx_iload_n (q := 10) dd_Md_reach_9 rfl rfl ?_
    refine zx_iload (q := 12) dd_Md_reach_10 rfl rfl ?_
    refine zx_lload (q := 14) dd_Md_reach_12 rfl rfl ?_
    refine zx_cV4v (q := 17) dd_Md_reach_14 rfl cv_Md_reach_140 ⟨rfl, rfl⟩ at_m rfl rfl (Nat.le_of_ble_eq_true rfl) ⟨Nat.zero_le _, Nat.zero_le _⟩ (ok_Md_claimed hf hs hw fun D45 he45 hw45 => ⟨rfl, ?_⟩)
    obtain ⟨t45, fr45, lo45, I45, J45⟩ := D45
    refine zx_goto 67 dd_Md_reach_17 (by decide) ?_
    exact zx_vret dd_Md_reach_67 rfl (hq _ (by first | (simp [pm_reach, eq_true hc1, he45]; done) | (clear hq; simp_all [pm_reach]; done)) hw45)
