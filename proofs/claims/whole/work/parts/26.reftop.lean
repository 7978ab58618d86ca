set_option maxRecDepth 100000 in
set_option maxHeartbeats 4000000 in
theorem ok_Md_send {E : zxE} {b n : Nat} {B : zB} {F : Nat → zFn} {D : zMd} {Q : Option Value → zxH → Nat → Prop} {x tg gr si : Int32} {se : Int64} (hw : D.2.1 ≤ 48) (hq : ∀ r D', pm_send D x tg gr si se = (r, D') → Q (some (.int (zb r))) (zs b (B, F, D')) n) : zx_Ok E my_Md_send mi_Md_send [.ref (b + 71), .int x, .int tg, .int gr, .int si, .long se] (zs b (B, F, D)) n Q := by
  obtain ⟨t, fr, lo, I, J⟩ := D
  refine zx_start [some (.ref (b + 71)), some (.int x), some (.int tg), some (.int gr), some (.int si), some (.long se), none, none] (by decide) rfl rfl (Nat.le_of_ble_eq_true rfl) rfl ?_
  refine zx_aload_n (q := 1) dd_Md_send_0 rfl rfl ?_
  refine zx_iload_n (q := 2) dd_Md_send_1 rfl rfl ?_
  refine zx_cV1i (q := 5) dd_Md_send_2 rfl cv_Md_send_156 ⟨rfl, rfl⟩ at_m rfl rfl (Nat.le_of_ble_eq_true rfl) ⟨Nat.zero_le _, Nat.zero_le _⟩ (ok_Md_on fun r1 he1 => ⟨_, rfl, ?_⟩)
  refine zx_if_eq 55 (q := 8) dd_Md_send_5 rfl (by decide) (fun hc1 => ?_) (fun hc1 => ?_)
  · skip
    replace hc1 := zb_0.mp hc1
    refine zx_iconst (nI 0) (q := 56) dd_Md_send_55 rfl (by decide) ?_
    exact zx_zret dd_Md_send_56 rfl (by decide) (by rw [zb_f]; exact hq _ _ (by first | (simp [pm_send, he1, hc1]; done) | (clear hq; simp_all [pm_send]; done)))
  · skip
    replace hc1 := zb_n0.mp hc1
    subst hc1
    obtain ⟨f, hf, rfl⟩ := pm_on_n he1
    refine zx_aload_n (q := 9) dd_Md_send_8 rfl rfl ?_
    refine zx_get (q := 12) dd_Md_send_9 rfl fl_Md_7 at_m rfl ?_
    refine zx_iload_n (q := 13) dd_Md_send_12 rfl rfl ?_
    refine zx_iald (q := 14) dd_Md_send_13 rfl at_m0 rfl (by omega) (by decide) ?_
    refine zx_iconst (nI 2) (q := 15) dd_Md_send_14 rfl (by decide) ?_
    refine zx_icmp_ne 55 (q := 18) dd_Md_send_15 rfl (by decide) (fun hc2 => ?_) (fun hc2 => ?_)
    · skip
      refine zx_iconst (nI 0) (q := 56) dd_Md_send_55 rfl (by decide) ?_
      exact zx_zret dd_Md_send_56 rfl (by decide) (by rw [zb_f]; exact hq _ _ (by first | (simp [pm_send, he1, pa_cl hf, hc2]; done) | (clear hq; simp_all [pm_send]; done)))
    · skip
      refine zx_aload_n (q := 19) dd_Md_send_18 rfl rfl ?_
      refine zx_get (q := 22) dd_Md_send_19 rfl fl_Md_39 at_m rfl ?_
      refine zx_iload_n (q := 23) dd_Md_send_22 rfl rfl ?_
      refine zx_iald (q := 24) dd_Md_send_23 rfl at_m9 rfl (by omega) (by decide) ?_
      refine zx_if_gt 55 (q := 27) dd_Md_send_24 rfl (by decide) (fun hc3 => ?_) (fun hc3 => ?_)
      · skip
        refine zx_iconst (nI 0) (q := 56) dd_Md_send_55 rfl (by decide) ?_
        exact zx_zret dd_Md_send_56 rfl (by decide) (by rw [zb_f]; exact hq _ _ (by first | (simp [pm_send, he1, pa_cl hf, eq_true hc2, hc3]; done) | (clear hq; simp_all [pm_send]; done)))
      · skip
        refine zx_iload_n (q := 28) dd_Md_send_27 rfl rfl ?_
        refine zx_if_lt 55 (q := 31) dd_Md_send_28 rfl (by decide) (fun hc4 => ?_) (fun hc4 => ?_)
        · skip
          refine zx_iconst (nI 0) (q := 56) dd_Md_send_55 rfl (by decide) ?_
          exact zx_zret dd_Md_send_56 rfl (by decide) (by rw [zb_f]; exact hq _ _ (by first | (simp [pm_send, he1, pa_cl hf, eq_true hc2, hc3, hc4]; done) | (clear hq; simp_all [pm_send]; done)))
        · skip
          refine zx_iload_n (q := 32) dd_Md_send_31 rfl rfl ?_
          refine zx_sipush (nI 254) (q := 35) dd_Md_send_32 rfl (by decide) ?_
          refine zx_icmp_eq 55 (q := 38) dd_Md_send_35 rfl (by decide) (fun hc5 => ?_) (fun hc5 => ?_)
          · skip
            refine zx_iconst (nI 0) (q := 56) dd_Md_send_55 rfl (by decide) ?_
            exact zx_zret dd_Md_send_56 rfl (by decide) (by rw [zb_f]; exact hq _ _ (by first | (simp [pm_send, he1, pa_cl hf, eq_true hc2, hc3, hc4, eq_true hc5]; done) | (clear hq; simp_all [pm_send]; done)))
          · skip
            refine zx_iload_n (q := 39) dd_Md_send_38 rfl rfl ?_
            refine zx_sipush (nI 255) (q := 42) dd_Md_send_39 rfl (by decide) ?_
            refine zx_icmp_gt 55 (q := 45) dd_Md_send_42 rfl (by decide) (fun hc6 => ?_) (fun hc6 => ?_)
            · skip
              refine zx_iconst (nI 0) (q := 56) dd_Md_send_55 rfl (by decide) ?_
              exact zx_zret dd_Md_send_56 rfl (by decide) (by rw [zb_f]; exact hq _ _ (by first | (simp [pm_send, he1, pa_cl hf, eq_true hc2, hc3, hc4, hc5, hc6]; done) | (clear hq; simp_all [pm_send]; done)))
            · skip
              refine zx_iload_n (q := 46) dd_Md_send_45 rfl rfl ?_
              refine zx_aload_n (q := 47) dd_Md_send_46 rfl rfl ?_
              refine zx_get (q := 50) dd_Md_send_47 rfl fl_Md_13 at_m rfl ?_
              refine zx_iload_n (q := 51) dd_Md_send_50 rfl rfl ?_
              refine zx_iald (q := 52) dd_Md_send_51 rfl at_m1 rfl (by omega) (by decide) ?_
              refine zx_icmp_ne 57 (q := 55) dd_Md_send_52 rfl (by decide) (fun hc7 => ?_) (fun hc7 => ?_)
              · skip
                refine zx_iload_n (q := 58) dd_Md_send_57 rfl rfl ?_
                refine zx_if_lt 81 (q := 61) dd_Md_send_58 rfl (by decide) (fun hc8 => ?_) (fun hc8 => ?_)
                · skip
                  refine zx_iconst (nI 0) (q := 82) dd_Md_send_81 rfl (by decide) ?_
                  exact zx_zret dd_Md_send_82 rfl (by decide) (by rw [zb_f]; exact hq _ _ (by first | (simp [pm_send, he1, pa_cl hf, eq_true hc2, hc3, hc4, hc5, hc6, hc7, hc8]; done) | (clear hq; simp_all [pm_send]; done)))
                · skip
                  refine zx_iload_n (q := 62) dd_Md_send_61 rfl rfl ?_
                  refine zx_ldc _ (q := 64) dd_Md_send_62 rfl kk_Md_169 ?_
                  refine zx_icmp_gt 81 (q := 67) dd_Md_send_64 rfl (by decide) (fun hc9 => ?_) (fun hc9 => ?_)
                  · skip
                    refine zx_iconst (nI 0) (q := 82) dd_Md_send_81 rfl (by decide) ?_
                    exact zx_zret dd_Md_send_82 rfl (by decide) (by rw [zb_f]; exact hq _ _ (by first | (simp [pm_send, he1, pa_cl hf, eq_true hc2, hc3, hc4, hc5, hc6, hc7, hc8, hc9]; done) | (clear hq; simp_all [pm_send]; done)))
                  · skip
                    refine zx_iload (q := 69) dd_Md_send_67 rfl rfl ?_
                    refine zx_bipush (nI 9) (q := 71) dd_Md_send_69 rfl (by decide) ?_
                    refine zx_icmp_lt 81 (q := 74) dd_Md_send_71 rfl (by decide) (fun hc10 => ?_) (fun hc10 => ?_)
                    · skip
                      refine zx_iconst (nI 0) (q := 82) dd_Md_send_81 rfl (by decide) ?_
                      exact zx_zret dd_Md_send_82 rfl (by decide) (by rw [zb_f]; exact hq _ _ (by first | (simp [pm_send, he1, pa_cl hf, eq_true hc2, hc3, hc4, hc5, hc6, hc7, hc8, hc9, hc10]; done) | (clear hq; simp_all [pm_send]; done)))
                    · skip
                      refine zx_iload (q := 76) dd_Md_send_74 rfl rfl ?_
                      refine zx_bipush (nI 49) (q := 78) dd_Md_send_76 rfl (by decide) ?_
                      refine zx_icmp_le 83 (q := 81) dd_Md_send_78 rfl (by decide) (fun hc11 => ?_) (fun hc11 => ?_)
                      · skip
                        refine zx_iload_n (q := 84) dd_Md_send_83 rfl rfl ?_
                        refine zx_sipush (nI 255) (q := 87) dd_Md_send_84 rfl (by decide) ?_
                        refine zx_icmp_ne 94 (q := 90) dd_Md_send_87 rfl (by decide) (fun hc12 => ?_) (fun hc12 => ?_)
                        · skip
                          refine zx_iconst (nI 0) (q := 95) dd_Md_send_94 rfl (by decide) ?_
                          refine zx_istore_7 (q := 97) dd_Md_send_95 rfl (by decide) rfl ?_
                          refine zx_aload_n (q := 98) dd_Md_send_97 rfl rfl ?_
                          refine zx_get (q := 101) dd_Md_send_98 rfl fl_Md_39 at_m rfl ?_
                          refine zx_iload_n (q := 102) dd_Md_send_101 rfl rfl ?_
                          refine zx_iload (q := 104) dd_Md_send_102 rfl rfl ?_
                          refine zx_if_eq 111 (q := 107) dd_Md_send_104 rfl (by decide) (fun hc13 => ?_) (fun hc13 => absurd (by decide) hc13)
                          refine zx_iconst (nI 2) (q := 112) dd_Md_send_111 rfl (by decide) ?_
                          refine zx_iast (q := 113) dd_Md_send_112 rfl at_m9 rfl (by omega) (by decide) up_m9 ?_
                          refine zx_aload_n (q := 114) dd_Md_send_113 rfl rfl ?_
                          refine zx_get (q := 117) dd_Md_send_114 rfl fl_Md_45 at_m rfl ?_
                          refine zx_iload_n (q := 118) dd_Md_send_117 rfl rfl ?_
                          refine zx_iload_n (q := 119) dd_Md_send_118 rfl rfl ?_
                          refine zx_iast (q := 120) dd_Md_send_119 rfl at_m11 rfl (by omega) (by decide) up_m11 ?_
                          refine zx_aload_n (q := 121) dd_Md_send_120 rfl rfl ?_
                          refine zx_get (q := 124) dd_Md_send_121 rfl fl_Md_48 at_m rfl ?_
                          refine zx_iload_n (q := 125) dd_Md_send_124 rfl rfl ?_
                          refine zx_iload_n (q := 126) dd_Md_send_125 rfl rfl ?_
                          refine zx_iast (q := 127) dd_Md_send_126 rfl at_m12 rfl (by omega) (by decide) up_m12 ?_
                          refine zx_aload_n (q := 128) dd_Md_send_127 rfl rfl ?_
                          refine zx_get (q := 131) dd_Md_send_128 rfl fl_Md_51 at_m rfl ?_
                          refine zx_iload_n (q := 132) dd_Md_send_131 rfl rfl ?_
                          refine zx_iload (q := 134) dd_Md_send_132 rfl rfl ?_
                          refine zx_iast (q := 135) dd_Md_send_134 rfl at_m13 rfl (by omega) (by decide) up_m13 ?_
                          refine zx_aload_n (q := 136) dd_Md_send_135 rfl rfl ?_
                          refine zx_get (q := 139) dd_Md_send_136 rfl fl_Md_54 at_m rfl ?_
                          refine zx_iload_n (q := 140) dd_Md_send_139 rfl rfl ?_
                          refine zx_lload (q := 142) dd_Md_send_140 rfl rfl ?_
                          refine zx_last (q := 143) dd_Md_send_142 rfl at_m14 rfl (by omega) (by decide) up_m14 ?_
                          refine zx_aload_n (q := 144) dd_Md_send_143 rfl rfl ?_
                          refine zx_get (q := 147) dd_Md_send_144 rfl fl_Md_57 at_m rfl ?_
                          refine zx_iload_n (q := 148) dd_Md_send_147 rfl rfl ?_
                          refine zx_iconst (nI 1) (q := 149) dd_Md_send_148 rfl (by decide) ?_
                          refine zx_iast (q := 150) dd_Md_send_149 rfl at_m15 rfl (by omega) (by decide) up_m15 ?_
                          refine zx_aload_n (q := 151) dd_Md_send_150 rfl rfl ?_
                          refine zx_get (q := 154) dd_Md_send_151 rfl fl_Md_60 at_m rfl ?_
                          refine zx_iload_n (q := 155) dd_Md_send_154 rfl rfl ?_
                          refine zx_aload_n (q := 156) dd_Md_send_155 rfl rfl ?_
                          refine zx_get (q := 159) dd_Md_send_156 rfl fl_Md_153 at_m rfl ?_
                          refine zx_iload (q := 161) dd_Md_send_159 rfl rfl ?_
                          refine zx_if_eq 169 (q := 164) dd_Md_send_161 rfl (by decide) (fun hc14 => ?_) (fun hc14 => absurd (by decide) hc14)
                          refine zx_sipush (nI 1250) (q := 172) dd_Md_send_169 rfl (by decide) ?_
                          refine zx_iadd (q := 173) dd_Md_send_172 rfl ?_
                          refine zx_iast (q := 174) dd_Md_send_173 rfl at_m16 rfl (by omega) (by decide) up_m16 ?_
                          refine zx_aload_n (q := 175) dd_Md_send_174 rfl rfl ?_
                          refine zx_iload_n (q := 176) dd_Md_send_175 rfl rfl ?_
                          refine zx_iload_n (q := 177) dd_Md_send_176 rfl rfl ?_
                          refine zx_iload (q := 179) dd_Md_send_177 rfl rfl ?_
                          refine zx_if_eq 187 (q := 182) dd_Md_send_179 rfl (by decide) (fun hc15 => ?_) (fun hc15 => absurd (by decide) hc15)
                          refine zx_bipush (nI 16) (q := 189) dd_Md_send_187 rfl (by decide) ?_
                          refine zx_iload (q := 191) dd_Md_send_189 rfl rfl ?_
                          refine zx_sipush (nI 255) (q := 194) dd_Md_send_191 rfl (by decide) ?_
                          refine zx_iand (q := 195) dd_Md_send_194 rfl ?_
                          refine zx_iload (q := 197) dd_Md_send_195 rfl rfl ?_
                          refine zx_bipush (nI 8) (q := 199) dd_Md_send_197 rfl (by decide) ?_
                          refine zx_ishr (q := 200) dd_Md_send_199 rfl ?_
                          refine zx_iload (q := 202) dd_Md_send_200 rfl rfl ?_
                          refine zx_cS1i (q := 205) dd_Md_send_202 rfl cs_Md_send_170 ⟨rfl, rfl⟩ (Nat.le_of_ble_eq_true rfl) ⟨Nat.zero_le _, Nat.zero_le _⟩ (ok_Md_packets ⟨_, rfl, ?_⟩)
                          refine zx_iload_n (q := 206) dd_Md_send_205 rfl rfl ?_
                          refine zx_cV7v (q := 209) dd_Md_send_206 rfl cv_Md_send_122 ⟨rfl, rfl⟩ at_m rfl rfl (Nat.le_of_ble_eq_true rfl) ⟨Nat.zero_le _, Nat.zero_le _⟩ (ok_Md_putControl hf hw fun D2 he2 hw2 => ⟨rfl, ?_⟩)
                          obtain ⟨t2, fr2, lo2, I2, J2⟩ := D2
                          refine zx_iconst (nI 1) (q := 210) dd_Md_send_209 rfl (by decide) ?_
                          exact zx_zret dd_Md_send_210 rfl (by decide) (by rw [zb_1]; exact hq _ _ (by first | (simp [pm_send, he1, pa_cl hf, eq_true hc2, hc3, hc4, hc5, hc6, hc7, hc8, hc9, hc10, hc11, hc12, he2]; done) | (clear hq; simp_all [pm_send]; done)))
                        · skip
                          refine zx_iconst (nI 1) (q := 91) dd_Md_send_90 rfl (by decide) ?_
                          refine zx_goto 95 dd_Md_send_91 (by decide) ?_
                          refine zx_istore_7 (q := 97) dd_Md_send_95 rfl (by decide) rfl ?_
                          refine zx_aload_n (q := 98) dd_Md_send_97 rfl rfl ?_
                          refine zx_get (q := 101) dd_Md_send_98 rfl fl_Md_39 at_m rfl ?_
                          refine zx_iload_n (q := 102) dd_Md_send_101 rfl rfl ?_
                          refine zx_iload (q := 104) dd_Md_send_102 rfl rfl ?_
                          refine zx_if_eq 111 (q := 107) dd_Md_send_104 rfl (by decide) (fun hc16 => absurd hc16 (by decide)) (fun hc16 => ?_)
                          refine zx_iconst (nI 1) (q := 108) dd_Md_send_107 rfl (by decide) ?_
                          refine zx_goto 112 dd_Md_send_108 (by decide) ?_
                          refine zx_iast (q := 113) dd_Md_send_112 rfl at_m9 rfl (by omega) (by decide) up_m9 ?_
                          refine zx_aload_n (q := 114) dd_Md_send_113 rfl rfl ?_
                          refine zx_get (q := 117) dd_Md_send_114 rfl fl_Md_45 at_m rfl ?_
                          refine zx_iload_n (q := 118) dd_Md_send_117 rfl rfl ?_
                          refine zx_iload_n (q := 119) dd_Md_send_118 rfl rfl ?_
                          refine zx_iast (q := 120) dd_Md_send_119 rfl at_m11 rfl (by omega) (by decide) up_m11 ?_
                          refine zx_aload_n (q := 121) dd_Md_send_120 rfl rfl ?_
                          refine zx_get (q := 124) dd_Md_send_121 rfl fl_Md_48 at_m rfl ?_
                          refine zx_iload_n (q := 125) dd_Md_send_124 rfl rfl ?_
                          refine zx_iload_n (q := 126) dd_Md_send_125 rfl rfl ?_
                          refine zx_iast (q := 127) dd_Md_send_126 rfl at_m12 rfl (by omega) (by decide) up_m12 ?_
                          refine zx_aload_n (q := 128) dd_Md_send_127 rfl rfl ?_
                          refine zx_get (q := 131) dd_Md_send_128 rfl fl_Md_51 at_m rfl ?_
                          refine zx_iload_n (q := 132) dd_Md_send_131 rfl rfl ?_
                          refine zx_iload (q := 134) dd_Md_send_132 rfl rfl ?_
                          refine zx_iast (q := 135) dd_Md_send_134 rfl at_m13 rfl (by omega) (by decide) up_m13 ?_
                          refine zx_aload_n (q := 136) dd_Md_send_135 rfl rfl ?_
                          refine zx_get (q := 139) dd_Md_send_136 rfl fl_Md_54 at_m rfl ?_
                          refine zx_iload_n (q := 140) dd_Md_send_139 rfl rfl ?_
                          refine zx_lload (q := 142) dd_Md_send_140 rfl rfl ?_
                          refine zx_last (q := 143) dd_Md_send_142 rfl at_m14 rfl (by omega) (by decide) up_m14 ?_
                          refine zx_aload_n (q := 144) dd_Md_send_143 rfl rfl ?_
                          refine zx_get (q := 147) dd_Md_send_144 rfl fl_Md_57 at_m rfl ?_
                          refine zx_iload_n (q := 148) dd_Md_send_147 rfl rfl ?_
                          refine zx_iconst (nI 1) (q := 149) dd_Md_send_148 rfl (by decide) ?_
                          refine zx_iast (q := 150) dd_Md_send_149 rfl at_m15 rfl (by omega) (by decide) up_m15 ?_
                          refine zx_aload_n (q := 151) dd_Md_send_150 rfl rfl ?_
                          refine zx_get (q := 154) dd_Md_send_151 rfl fl_Md_60 at_m rfl ?_
                          refine zx_iload_n (q := 155) dd_Md_send_154 rfl rfl ?_
                          refine zx_aload_n (q := 156) dd_Md_send_155 rfl rfl ?_
                          refine zx_get (q := 159) dd_Md_send_156 rfl fl_Md_153 at_m rfl ?_
                          refine zx_iload (q := 161) dd_Md_send_159 rfl rfl ?_
                          refine zx_if_eq 169 (q := 164) dd_Md_send_161 rfl (by decide) (fun hc17 => absurd hc17 (by decide)) (fun hc17 => ?_)
                          refine zx_bipush (nI 50) (q := 166) dd_Md_send_164 rfl (by decide) ?_
                          refine zx_goto 172 dd_Md_send_166 (by decide) ?_
                          refine zx_iadd (q := 173) dd_Md_send_172 rfl ?_
                          refine zx_iast (q := 174) dd_Md_send_173 rfl at_m16 rfl (by omega) (by decide) up_m16 ?_
                          refine zx_aload_n (q := 175) dd_Md_send_174 rfl rfl ?_
                          refine zx_iload_n (q := 176) dd_Md_send_175 rfl rfl ?_
                          refine zx_iload_n (q := 177) dd_Md_send_176 rfl rfl ?_
                          refine zx_iload (q := 179) dd_Md_send_177 rfl rfl ?_
                          refine zx_if_eq 187 (q := 182) dd_Md_send_179 rfl (by decide) (fun hc18 => absurd hc18 (by decide)) (fun hc18 => ?_)
                          refine zx_bipush (nI 32) (q := 184) dd_Md_send_182 rfl (by decide) ?_
                          refine zx_goto 189 dd_Md_send_184 (by decide) ?_
                          refine zx_iload (q := 191) dd_Md_send_189 rfl rfl ?_
                          refine zx_sipush (nI 255) (q := 194) dd_Md_send_191 rfl (by decide) ?_
                          refine zx_iand (q := 195) dd_Md_send_194 rfl ?_
                          refine zx_iload (q := 197) dd_Md_send_195 rfl rfl ?_
                          refine zx_bipush (nI 8) (q := 199) dd_Md_send_197 rfl (by decide) ?_
                          refine zx_ishr (q := 200) dd_Md_send_199 rfl ?_
                          refine zx_iload (q := 202) dd_Md_send_200 rfl rfl ?_
                          refine zx_cS1i (q := 205) dd_Md_send_202 rfl cs_Md_send_170 ⟨rfl, rfl⟩ (Nat.le_of_ble_eq_true rfl) ⟨Nat.zero_le _, Nat.zero_le _⟩ (ok_Md_packets ⟨_, rfl, ?_⟩)
                          refine zx_iload_n (q := 206) dd_Md_send_205 rfl rfl ?_
                          refine zx_cV7v (q := 209) dd_Md_send_206 rfl cv_Md_send_122 ⟨rfl, rfl⟩ at_m rfl rfl (Nat.le_of_ble_eq_true rfl) ⟨Nat.zero_le _, Nat.zero_le _⟩ (ok_Md_putControl hf hw fun D3 he3 hw3 => ⟨rfl, ?_⟩)
                          obtain ⟨t3, fr3, lo3, I3, J3⟩ := D3
                          refine zx_iconst (nI 1) (q := 210) dd_Md_send_209 rfl (by decide) ?_
                          exact zx_zret dd_Md_send_210 rfl (by decide) (by rw [zb_1]; exact hq _ _ (by first | (simp [pm_send, he1, pa_cl hf, eq_true hc2, hc3, hc4, hc5, hc6, hc7, hc8, hc9, hc10, hc11, eq_true hc12, he3]; done) | (clear hq; simp_all [pm_send]; done)))
                      · skip
                        refine zx_iconst (nI 0) (q := 82) dd_Md_send_81 rfl (by decide) ?_
                        exact zx_zret dd_Md_send_82 rfl (by decide) (by rw [zb_f]; exact hq _ _ (by first | (simp [pm_send, he1, pa_cl hf, eq_true hc2, hc3, hc4, hc5, hc6, hc7, hc8, hc9, hc10, hc11]; done) | (clear hq; simp_all [pm_send]; done)))
              · skip
                refine zx_iconst (nI 0) (q := 56) dd_Md_send_55 rfl (by decide) ?_
                exact zx_zret dd_Md_send_56 rfl (by decide) (by rw [zb_f]; exact hq _ _ (by first | (simp [pm_send, he1, pa_cl hf, eq_true hc2, hc3, hc4, hc5, hc6, eq_true hc7]; done) | (clear hq; simp_all [pm_send]; done)))
set_option maxRecDepth 100000 in
set_option maxHeartbeats 4000000 in
theorem lo_Md_start1 {E : zxE} {b n : Nat} {B : zB} {F : Nat → zFn} {Q : Option Value → zxH → Nat → Prop} {t lo : Int32} {fr : Nat} {I : Nat → Nat → Int32} {J : Nat → Nat → Int64} {f : Nat} {name : Int64} {a : Int32} (hT : pm_tk I J name 5 = true → Q (some (.int (zb false))) (zs b (B, F, (t, fr, lo, I, J))) n) (hr : pm_tk I J name 5 = false → zx_X E mi_Md_start (zx_Y E mi_Md_start Q) 72 [some (.ref (b + 71)), some (.int (nI f)), some (.long name), none, some (.int a), some (.int (nI 5))] [] (zs b (B, F, (t, fr, lo, I, J))) n 0 0) : ∀ k i : Nat, i + k = 5 → pm_tk I J name i = false → zx_X E mi_Md_start (zx_Y E mi_Md_start Q) 36 [some (.ref (b + 71)), some (.int (nI f)), some (.long name), none, some (.int a), some (.int (nI i))] [] (zs b (B, F, (t, fr, lo, I, J))) n 0 0 := by
  intro k
  induction k with
  | zero =>
    intro i h2 hn
    have h3 : i = 5 := by omega
    subst h3
    refine zx_iload (q := 38) dd_Md_start_36 rfl rfl ?_
    refine zx_iconst (nI 5) (q := 39) dd_Md_start_38 rfl (by decide) ?_
    refine zx_icmp_ge 72 (q := 42) dd_Md_start_39 rfl (by decide) (fun hc1 => ?_) (fun hc1 => absurd (by decide) hc1)
    exact hr hn
  | succ k ih =>
    intro i h2 hn
    have ih := ih (i + 1) (by omega)
    refine zx_iload (q := 38) dd_Md_start_36 rfl rfl ?_
    refine zx_iconst (nI 5) (q := 39) dd_Md_start_38 rfl (by decide) ?_
    refine zx_icmp_ge 72 (q := 42) dd_Md_start_39 rfl (by decide) (fun hc1 => absurd hc1 (fun z => absurd ((nI_leI (by decide) (by omega)).mp z) (by omega))) (fun hc1 => ?_)
    refine zx_aload_n (q := 43) dd_Md_start_42 rfl rfl ?_
    refine zx_get (q := 46) dd_Md_start_43 rfl fl_Md_7 at_m rfl ?_
    refine zx_iload (q := 48) dd_Md_start_46 rfl rfl ?_
    refine zx_iald (q := 49) dd_Md_start_48 rfl at_m0 rfl (by omega) (by decide) ?_
    refine zx_if_eq 66 (q := 52) dd_Md_start_49 rfl (by decide) (fun hc2 => ?_) (fun hc2 => ?_)
    · skip
      refine zx_iincN_5 (q := 69) dd_Md_start_66 rfl (by decide) rfl ?_
      refine zx_goto 36 dd_Md_start_69 (by decide) ?_
      exact ih (by simp [pm_tk, hn, eq_true hc2])
    · skip
      refine zx_aload_n (q := 53) dd_Md_start_52 rfl rfl ?_
      refine zx_get (q := 56) dd_Md_start_53 rfl fl_Md_16 at_m rfl ?_
      refine zx_iload (q := 58) dd_Md_start_56 rfl rfl ?_
      refine zx_lald (q := 59) dd_Md_start_58 rfl at_m2 rfl (by omega) (by decide) ?_
      refine zx_lload_n (q := 60) dd_Md_start_59 rfl rfl ?_
      refine zx_lcmp (q := 61) dd_Md_start_60 rfl ?_
      refine zx_if_ne 66 (q := 64) dd_Md_start_61 rfl (by decide) (fun hc3 => ?_) (fun hc3 => ?_)
      · skip
        replace hc3 := mt lcmp_0.mpr hc3
        refine zx_iincN_5 (q := 69) dd_Md_start_66 rfl (by decide) rfl ?_
        refine zx_goto 36 dd_Md_start_69 (by decide) ?_
        exact ih (by simp [pm_tk, hn, hc2, hc3])
      · skip
        replace hc3 := lcmp_0.mp hc3
        refine zx_iconst (nI 0) (q := 65) dd_Md_start_64 rfl (by decide) ?_
        exact zx_zret dd_Md_start_65 rfl (by decide) (by rw [zb_f]; exact hT (by have z : pm_tk I J name (i + 1) = true := (by simp [pm_tk, hc2, hc3]); have z2 := pm_tk_up z k; rwa [show i + 1 + k = 5 by omega] at z2))
set_option maxRecDepth 100000 in
set_option maxHeartbeats 4000000 in
theorem lo_Md_start2 {E : zxE} {b n : Nat} {B : zB} {F : Nat → zFn} {Q : Option Value → zxH → Nat → Prop} {t lo : Int32} {fr : Nat} {I : Nat → Nat → Int32} {J : Nat → Nat → Int64} {f : Nat} {name : Int64} {a : Int32} (hf : f < 5) (hr : zx_X E mi_Md_start (zx_Y E mi_Md_start Q) 135 [some (.ref (b + 71)), some (.int (nI f)), some (.long name), none, some (.int a), some (.int (nI 5))] [] (zs b (B, F, (t, fr, lo, pm_fill I f 5, J))) n 0 0) : ∀ k i : Nat, i + k = 5 → zx_X E mi_Md_start (zx_Y E mi_Md_start Q) 111 [some (.ref (b + 71)), some (.int (nI f)), some (.long name), none, some (.int a), some (.int (nI i))] [] (zs b (B, F, (t, fr, lo, pm_fill I f i, J))) n 0 0 := by
  intro k
  induction k with
  | zero =>
    intro i h2
    have h3 : i = 5 := by omega
    subst h3
    refine zx_iload (q := 113) dd_Md_start_111 rfl rfl ?_
    refine zx_iconst (nI 5) (q := 114) dd_Md_start_113 rfl (by decide) ?_
    refine zx_icmp_ge 135 (q := 117) dd_Md_start_114 rfl (by decide) (fun hc1 => ?_) (fun hc1 => absurd (by decide) hc1)
    exact hr
  | succ k ih =>
    intro i h2
    have ih := ih (i + 1) (by omega)
    rw [← pm_fill_s] at ih
    refine zx_iload (q := 113) dd_Md_start_111 rfl rfl ?_
    refine zx_iconst (nI 5) (q := 114) dd_Md_start_113 rfl (by decide) ?_
    refine zx_icmp_ge 135 (q := 117) dd_Md_start_114 rfl (by decide) (fun hc1 => absurd hc1 (fun z => absurd ((nI_leI (by decide) (by omega)).mp z) (by omega))) (fun hc1 => ?_)
    refine zx_aload_n (q := 118) dd_Md_start_117 rfl rfl ?_
    refine zx_get (q := 121) dd_Md_start_118 rfl fl_Md_27 at_m rfl ?_
    refine zx_iconst (nI 5) (q := 122) dd_Md_start_121 rfl (by decide) ?_
    refine zx_iload_n (q := 123) dd_Md_start_122 rfl rfl ?_
    refine zx_imul (q := 124) dd_Md_start_123 rfl ?_
    refine zx_topi (pk_mul _ _) ?_
    refine zx_iload (q := 126) dd_Md_start_124 rfl rfl ?_
    refine zx_iadd (q := 127) dd_Md_start_126 rfl ?_
    refine zx_topi (nI_add _ _) ?_
    refine zx_iconst (-1) (q := 128) dd_Md_start_127 rfl (by decide) ?_
    refine zx_iast (q := 129) dd_Md_start_128 rfl at_m5 rfl (by omega) (by decide) up_m5 ?_
    refine zx_iincN_5 (q := 132) dd_Md_start_129 rfl (by decide) rfl ?_
    refine zx_goto 111 dd_Md_start_132 (by decide) ?_
    exact ih
set_option maxRecDepth 100000 in
set_option maxHeartbeats 4000000 in
theorem ok_Md_start {E : zxE} {b n : Nat} {B : zB} {F : Nat → zFn} {D : zMd} {Q : Option Value → zxH → Nat → Prop} {x a : Int32} {name : Int64} (hw : D.2.1 ≤ 48) (hq : ∀ r D', pm_start D x name a = (r, D') → Q (some (.int (zb r))) (zs b (B, F, D')) n) : zx_Ok E my_Md_start mi_Md_start [.ref (b + 71), .int x, .long name, .int a] (zs b (B, F, D)) n Q := by
  obtain ⟨t, fr, lo, I, J⟩ := D
  refine zx_start [some (.ref (b + 71)), some (.int x), some (.long name), none, some (.int a), none] (by decide) rfl rfl (Nat.le_of_ble_eq_true rfl) rfl ?_
  refine zx_iload_n (q := 1) dd_Md_start_0 rfl rfl ?_
  refine zx_if_lt 31 (q := 4) dd_Md_start_1 rfl (by decide) (fun hc1 => ?_) (fun hc1 => ?_)
  · skip
    refine zx_iconst (nI 0) (q := 32) dd_Md_start_31 rfl (by decide) ?_
    exact zx_zret dd_Md_start_32 rfl (by decide) (by rw [zb_f]; exact hq _ _ (by first | (simp [pm_start, hc1]; done) | (clear hq; simp_all [pm_start]; done)))
  · skip
    refine zx_iload_n (q := 5) dd_Md_start_4 rfl rfl ?_
    refine zx_iconst (nI 4) (q := 6) dd_Md_start_5 rfl (by decide) ?_
    refine zx_icmp_gt 31 (q := 9) dd_Md_start_6 rfl (by decide) (fun hc2 => ?_) (fun hc2 => ?_)
    · skip
      refine zx_iconst (nI 0) (q := 32) dd_Md_start_31 rfl (by decide) ?_
      exact zx_zret dd_Md_start_32 rfl (by decide) (by rw [zb_f]; exact hq _ _ (by first | (simp [pm_start, hc1, hc2]; done) | (clear hq; simp_all [pm_start]; done)))
    · skip
      obtain ⟨f, hf, rfl⟩ := pm_in hc1 hc2
      refine zx_aload_n (q := 10) dd_Md_start_9 rfl rfl ?_
      refine zx_get (q := 13) dd_Md_start_10 rfl fl_Md_7 at_m rfl ?_
      refine zx_iload_n (q := 14) dd_Md_start_13 rfl rfl ?_
      refine zx_iald (q := 15) dd_Md_start_14 rfl at_m0 rfl (by omega) (by decide) ?_
      refine zx_if_ne 31 (q := 18) dd_Md_start_15 rfl (by decide) (fun hc3 => ?_) (fun hc3 => ?_)
      · skip
        refine zx_iconst (nI 0) (q := 32) dd_Md_start_31 rfl (by decide) ?_
        exact zx_zret dd_Md_start_32 rfl (by decide) (by rw [zb_f]; exact hq _ _ (by first | (simp [pm_start, hc1, hc2, pa_cl hf, hc3]; done) | (clear hq; simp_all [pm_start]; done)))
      · skip
        refine zx_iload (q := 20) dd_Md_start_18 rfl rfl ?_
        refine zx_if_lt 31 (q := 23) dd_Md_start_20 rfl (by decide) (fun hc4 => ?_) (fun hc4 => ?_)
        · skip
          refine zx_iconst (nI 0) (q := 32) dd_Md_start_31 rfl (by decide) ?_
          exact zx_zret dd_Md_start_32 rfl (by decide) (by rw [zb_f]; exact hq _ _ (by first | (simp [pm_start, hc1, hc2, pa_cl hf, eq_true hc3, hc4]; done) | (clear hq; simp_all [pm_start]; done)))
        · skip
          refine zx_iload (q := 25) dd_Md_start_23 rfl rfl ?_
          refine zx_sipush (nI 253) (q := 28) dd_Md_start_25 rfl (by decide) ?_
          refine zx_icmp_le 33 (q := 31) dd_Md_start_28 rfl (by decide) (fun hc5 => ?_) (fun hc5 => ?_)
          · skip
            refine zx_iconst (nI 0) (q := 34) dd_Md_start_33 rfl (by decide) ?_
            refine zx_istore_5 (q := 36) dd_Md_start_34 rfl (by decide) rfl ?_
            refine lo_Md_start1 (fun hz => hq _ _ (by simp [pm_start, hc1, hc2, pa_cl hf, eq_true hc3, hc4, hc5, hz])) (fun hz => ?_) 5 0 (by omega) rfl
            refine zx_aload_n (q := 73) dd_Md_start_72 rfl rfl ?_
            refine zx_get (q := 76) dd_Md_start_73 rfl fl_Md_7 at_m rfl ?_
            refine zx_iload_n (q := 77) dd_Md_start_76 rfl rfl ?_
            refine zx_iconst (nI 1) (q := 78) dd_Md_start_77 rfl (by decide) ?_
            refine zx_iast (q := 79) dd_Md_start_78 rfl at_m0 rfl (by omega) (by decide) up_m0 ?_
            refine zx_aload_n (q := 80) dd_Md_start_79 rfl rfl ?_
            refine zx_get (q := 83) dd_Md_start_80 rfl fl_Md_16 at_m rfl ?_
            refine zx_iload_n (q := 84) dd_Md_start_83 rfl rfl ?_
            refine zx_lload_n (q := 85) dd_Md_start_84 rfl rfl ?_
            refine zx_last (q := 86) dd_Md_start_85 rfl at_m2 rfl (by omega) (by decide) up_m2 ?_
            refine zx_aload_n (q := 87) dd_Md_start_86 rfl rfl ?_
            refine zx_get (q := 90) dd_Md_start_87 rfl fl_Md_13 at_m rfl ?_
            refine zx_iload_n (q := 91) dd_Md_start_90 rfl rfl ?_
            refine zx_iload (q := 93) dd_Md_start_91 rfl rfl ?_
            refine zx_iast (q := 94) dd_Md_start_93 rfl at_m1 rfl (by omega) (by decide) up_m1 ?_
            refine zx_aload_n (q := 95) dd_Md_start_94 rfl rfl ?_
            refine zx_get (q := 98) dd_Md_start_95 rfl fl_Md_24 at_m rfl ?_
            refine zx_iload_n (q := 99) dd_Md_start_98 rfl rfl ?_
            refine zx_aload_n (q := 100) dd_Md_start_99 rfl rfl ?_
            refine zx_get (q := 103) dd_Md_start_100 rfl fl_Md_153 at_m rfl ?_
            refine zx_sipush (nI 250) (q := 106) dd_Md_start_103 rfl (by decide) ?_
            refine zx_iadd (q := 107) dd_Md_start_106 rfl ?_
            refine zx_iast (q := 108) dd_Md_start_107 rfl at_m4 rfl (by omega) (by decide) up_m4 ?_
            refine zx_iconst (nI 0) (q := 109) dd_Md_start_108 rfl (by decide) ?_
            refine zx_istore_5 (q := 111) dd_Md_start_109 rfl (by decide) rfl ?_
            refine zx_heap (h' := zs b (B, F, (t, fr, lo, pm_fill _ f 0, _))) (by rw [pm_fill_0]) ?_
            refine (fun hr => lo_Md_start2 hf hr 5 0 (by omega)) ?_
            refine zx_aload_n (q := 136) dd_Md_start_135 rfl rfl ?_
            refine zx_get (q := 139) dd_Md_start_136 rfl fl_Md_42 at_m rfl ?_
            refine zx_iload_n (q := 140) dd_Md_start_139 rfl rfl ?_
            refine zx_iconst (nI 0) (q := 141) dd_Md_start_140 rfl (by decide) ?_
            refine zx_iast (q := 142) dd_Md_start_141 rfl at_m10 rfl (by omega) (by decide) up_m10 ?_
            refine zx_aload_n (q := 143) dd_Md_start_142 rfl rfl ?_
            refine zx_get (q := 146) dd_Md_start_143 rfl fl_Md_96 at_m rfl ?_
            refine zx_iload_n (q := 147) dd_Md_start_146 rfl rfl ?_
            refine zx_iconst (nI 0) (q := 148) dd_Md_start_147 rfl (by decide) ?_
            refine zx_iast (q := 149) dd_Md_start_148 rfl at_m28 rfl (by omega) (by decide) up_m28 ?_
            refine zx_aload_n (q := 150) dd_Md_start_149 rfl rfl ?_
            refine zx_iload_n (q := 151) dd_Md_start_150 rfl rfl ?_
            refine zx_cV1v (q := 154) dd_Md_start_151 rfl cv_Md_start_144 ⟨rfl, rfl⟩ at_m rfl rfl (Nat.le_of_ble_eq_true rfl) ⟨Nat.zero_le _, Nat.zero_le _⟩ (ok_Md_putClaim hf hw fun D4 he4 hw4 => ⟨rfl, ?_⟩)
            obtain ⟨t4, fr4, lo4, I4, J4⟩ := D4
            refine zx_iconst (nI 1) (q := 155) dd_Md_start_154 rfl (by decide) ?_
            exact zx_zret dd_Md_start_155 rfl (by decide) (by rw [zb_1]; exact hq _ _ (by first | (simp [pm_start, hc1, hc2, pa_cl hf, eq_true hc3, hc4, hc5, hz, he4]; done) | (clear hq; simp_all [pm_start]; done)))
          · skip
            refine zx_iconst (nI 0) (q := 32) dd_Md_start_31 rfl (by decide) ?_
            exact zx_zret dd_Md_start_32 rfl (by decide) (by rw [zb_f]; exact hq _ _ (by first | (simp [pm_start, hc1, hc2, pa_cl hf, eq_true hc3, hc4, hc5]; done) | (clear hq; simp_all [pm_start]; done)))
theorem pm_m1 (x : Int32) : x + (-1) = x - nI 1 := by
  rw [Int32.sub_eq_add_neg]
  rfl
set_option maxRecDepth 100000 in
set_option maxHeartbeats 4000000 in
theorem lo_Md_stop {E : zxE} {b n : Nat} {B : zB} {F : Nat → zFn} {Q : Option Value → zxH → Nat → Prop} {f : Nat} (hf : f < 5) : ∀ (k : Nat) (D : zMd), k ≤ D.2.1 → D.2.1 ≤ 48 → (∀ D', pm_rm f k D = D' → Q (some (.int (zb true))) (zs b (B, F, D')) n) → zx_X E mi_Md_stop (zx_Y E mi_Md_stop Q) 38 [some (.ref (b + 71)), some (.int (nI f)), some (.int (nI k - nI 1))] [] (zs b (B, F, D)) n 0 0 := by
  intro k
  induction k with
  | zero =>
    intro D h1 hw hq
    have hq := hq D rfl
    obtain ⟨t, fr, lo, I, J⟩ := D
    rw [show nI 0 - nI 1 = -1 from by decide]
    refine zx_iload_n (q := 39) dd_Md_stop_38 rfl rfl ?_
    refine zx_if_lt 63 (q := 42) dd_Md_stop_39 rfl (by decide) (fun hc1 => ?_) (fun hc1 => absurd (by decide) hc1)
    refine zx_iconst (nI 1) (q := 64) dd_Md_stop_63 rfl (by decide) ?_
    exact zx_zret dd_Md_stop_64 rfl (by decide) (by rw [zb_1]; exact hq)
  | succ k ih =>
    intro D h1 hw hq
    obtain ⟨t, fr, lo, I, J⟩ := D
    have h1 : k + 1 ≤ fr := h1
    have hw : fr ≤ 48 := hw
    rw [show nI (k + 1) - nI 1 = nI k from pk_sub (by omega)]
    refine zx_iload_n (q := 39) dd_Md_stop_38 rfl rfl ?_
    refine zx_if_lt 63 (q := 42) dd_Md_stop_39 rfl (by decide) (fun hc1 => absurd hc1 (nI_pos (by omega))) (fun hc1 => ?_)
    refine zx_aload_n (q := 43) dd_Md_stop_42 rfl rfl ?_
    refine zx_get (q := 46) dd_Md_stop_43 rfl fl_Md_36 at_m rfl ?_
    refine zx_iload_n (q := 47) dd_Md_stop_46 rfl rfl ?_
    refine zx_iald (q := 48) dd_Md_stop_47 rfl at_m8 rfl (by omega) (by decide) ?_
    refine zx_iload_n (q := 49) dd_Md_stop_48 rfl rfl ?_
    refine zx_icmp_ne 57 (q := 52) dd_Md_stop_49 rfl (by decide) (fun hc2 => ?_) (fun hc2 => ?_)
    · skip
      refine zx_iinc_2 (-1) (q := 60) dd_Md_stop_57 rfl (by decide) (by decide) rfl ?_
      refine zx_goto 38 dd_Md_stop_60 (by decide) ?_
      rw [pm_m1]
      exact ih (t, fr, lo, I, J) (by show k ≤ fr; omega) hw (fun D' h => hq D' (by simp [pm_rm, hc2, h]))
    · skip
      refine zx_aload_n (q := 53) dd_Md_stop_52 rfl rfl ?_
      refine zx_iload_n (q := 54) dd_Md_stop_53 rfl rfl ?_
      refine zx_cV1v (q := 57) dd_Md_stop_54 rfl cv_Md_stop_132 ⟨rfl, rfl⟩ at_m rfl rfl (Nat.le_of_ble_eq_true rfl) ⟨Nat.zero_le _, Nat.zero_le _⟩ (ok_Md_takeAway hw (show k < fr by omega) ⟨rfl, ?_⟩)
      refine zx_iinc_2 (-1) (q := 60) dd_Md_stop_57 rfl (by decide) (by decide) rfl ?_
      refine zx_goto 38 dd_Md_stop_60 (by decide) ?_
      rw [pm_m1]
      exact ih (pm_take (t, fr, lo, I, J) k) (by show k ≤ fr - 1; omega) (by show fr - 1 ≤ 48; omega) (fun D' h => hq D' (by simp [pm_rm, eq_true hc2, h]))
set_option maxRecDepth 100000 in
set_option maxHeartbeats 4000000 in
theorem ok_Md_stop {E : zxE} {b n : Nat} {B : zB} {F : Nat → zFn} {D : zMd} {Q : Option Value → zxH → Nat → Prop} {x : Int32} (hw : D.2.1 ≤ 48) (hq : ∀ r D', pm_stop D x = (r, D') → Q (some (.int (zb r))) (zs b (B, F, D')) n) : zx_Ok E my_Md_stop mi_Md_stop [.ref (b + 71), .int x] (zs b (B, F, D)) n Q := by
  obtain ⟨t, fr, lo, I, J⟩ := D
  refine zx_start [some (.ref (b + 71)), some (.int x), none] (by decide) rfl rfl (Nat.le_of_ble_eq_true rfl) rfl ?_
  refine zx_aload_n (q := 1) dd_Md_stop_0 rfl rfl ?_
  refine zx_iload_n (q := 2) dd_Md_stop_1 rfl rfl ?_
  refine zx_cV1i (q := 5) dd_Md_stop_2 rfl cv_Md_stop_156 ⟨rfl, rfl⟩ at_m rfl rfl (Nat.le_of_ble_eq_true rfl) ⟨Nat.zero_le _, Nat.zero_le _⟩ (ok_Md_on fun r5 he5 => ⟨_, rfl, ?_⟩)
  refine zx_if_ne 10 (q := 8) dd_Md_stop_5 rfl (by decide) (fun hc1 => ?_) (fun hc1 => ?_)
  · skip
    replace hc1 := zb_n0.mp hc1
    subst hc1
    obtain ⟨f, hf, rfl⟩ := pm_on_n he5
    refine zx_aload_n (q := 11) dd_Md_stop_10 rfl rfl ?_
    refine zx_get (q := 14) dd_Md_stop_11 rfl fl_Md_7 at_m rfl ?_
    refine zx_iload_n (q := 15) dd_Md_stop_14 rfl rfl ?_
    refine zx_iconst (nI 0) (q := 16) dd_Md_stop_15 rfl (by decide) ?_
    refine zx_iast (q := 17) dd_Md_stop_16 rfl at_m0 rfl (by omega) (by decide) up_m0 ?_
    refine zx_aload_n (q := 18) dd_Md_stop_17 rfl rfl ?_
    refine zx_get (q := 21) dd_Md_stop_18 rfl fl_Md_39 at_m rfl ?_
    refine zx_iload_n (q := 22) dd_Md_stop_21 rfl rfl ?_
    refine zx_iconst (nI 0) (q := 23) dd_Md_stop_22 rfl (by decide) ?_
    refine zx_iast (q := 24) dd_Md_stop_23 rfl at_m9 rfl (by omega) (by decide) up_m9 ?_
    refine zx_aload_n (q := 25) dd_Md_stop_24 rfl rfl ?_
    refine zx_get (q := 28) dd_Md_stop_25 rfl fl_Md_63 at_m rfl ?_
    refine zx_iload_n (q := 29) dd_Md_stop_28 rfl rfl ?_
    refine zx_iconst (nI 0) (q := 30) dd_Md_stop_29 rfl (by decide) ?_
    refine zx_iast (q := 31) dd_Md_stop_30 rfl at_m17 rfl (by omega) (by decide) up_m17 ?_
    refine zx_aload_n (q := 32) dd_Md_stop_31 rfl rfl ?_
    refine zx_get (q := 35) dd_Md_stop_32 rfl fl_Md_105 at_m rfl ?_
    refine zx_iconst (nI 1) (q := 36) dd_Md_stop_35 rfl (by decide) ?_
    refine zx_isub (q := 37) dd_Md_stop_36 rfl ?_
    refine zx_istore_2 (q := 38) dd_Md_stop_37 rfl (by decide) rfl ?_
    exact lo_Md_stop hf fr _ (Nat.le_refl _) hw (fun D' h => hq _ _ (by simp [pm_stop, he5, pa_cl hf, h]))
  · skip
    replace hc1 := zb_0.mp hc1
    refine zx_iconst (nI 0) (q := 9) dd_Md_stop_8 rfl (by decide) ?_
    exact zx_zret dd_Md_stop_9 rfl (by decide) (by rw [zb_f]; exact hq _ _ (by first | (simp [pm_stop, he5, hc1]; done) | (clear hq; simp_all [pm_stop]; done)))
set_option maxRecDepth 100000 in
set_option maxHeartbeats 4000000 in
theorem lo_Md_deliver {E : zxE} {b n : Nat} {B : zB} {F : Nat → zFn} {Q : Option Value → zxH → Nat → Prop} {D0 : zMd} {s : Nat} {kp pl id fm tg : Int32} {d : Int64} (hs : s < 5) (hz : ∀ k < 5, zm (pm_rch s fm tg (id &&& nI 255) d k D0) k) (hq : Q (some (.int (zb true))) (zs b (B, F, pm_rch s fm tg (id &&& nI 255) d 5 D0)) n) : ∀ k i : Nat, i + k = 5 → (pm_rch s fm tg (id &&& nI 255) d i D0).2.1 ≤ 48 → zx_X E mi_Md_deliver (zx_Y E mi_Md_deliver Q) 66 [some (.ref (b + 71)), some (.int kp), some (.int pl), some (.int id), some (.long d), none, some (.int (nI s)), some (.int fm), some (.int tg), some (.int (nI i)), none, none] [] (zs b (B, F, pm_rch s fm tg (id &&& nI 255) d i D0)) n 0 0 := by
  intro k
  induction k with
  | zero =>
    intro i h2 hw
    have h3 : i = 5 := by omega
    subst h3
    generalize hD : pm_rch s fm tg (id &&& nI 255) d 5 D0 = D at hq hw ⊢
    refine zx_iload (q := 68) dd_Md_deliver_66 rfl rfl ?_
    refine zx_iconst (nI 5) (q := 69) dd_Md_deliver_68 rfl (by decide) ?_
    refine zx_icmp_ge 193 (q := 72) dd_Md_deliver_69 rfl (by decide) (fun hc1 => ?_) (fun hc1 => absurd (by decide) hc1)
    refine zx_iconst (nI 1) (q := 194) dd_Md_deliver_193 rfl (by decide) ?_
    exact zx_zret dd_Md_deliver_194 rfl (by decide) (by rw [zb_1]; exact hq)
  | succ k ih =>
    intro i h2 hw
    have hf : i < 5 := by omega
    have hzi := hz i hf
    have hst : pm_rch s fm tg (id &&& nI 255) d (i + 1) D0 = if i = s then pm_rch s fm tg (id &&& nI 255) d i D0 else if pm_reached (pm_rch s fm tg (id &&& nI 255) d i D0).2.2.2.1 fm tg i = true then pm_reach (pm_rch s fm tg (id &&& nI 255) d i D0) i ((pm_rch s fm tg (id &&& nI 255) d i D0).2.2.2.1 17 i).toNatClampNeg s fm tg (id &&& nI 255) d else pm_rch s fm tg (id &&& nI 255) d i D0 := rfl
    have ih := ih (i + 1) (by omega)
    rw [hst] at ih
    generalize pm_rch s fm tg (id &&& nI 255) d i D0 = D at hzi hw ih ⊢
    obtain ⟨c, hc, hins, hpk, hexp⟩ := hzi
    have hcl : (D.2.2.2.1 17 i).toNatClampNeg = c := by rw [hins]; exact nI_clamp (by omega)
    obtain ⟨t, fr, lo, I, J⟩ := D
    have hcl : (I 17 i).toNatClampNeg = c := hcl
    refine zx_iload (q := 68) dd_Md_deliver_66 rfl rfl ?_
    refine zx_iconst (nI 5) (q := 69) dd_Md_deliver_68 rfl (by decide) ?_
    refine zx_icmp_ge 193 (q := 72) dd_Md_deliver_69 rfl (by decide) (fun hc1 => absurd hc1 (fun z => absurd ((nI_leI (by decide) (by omega)).mp z) (by omega))) (fun hc1 => ?_)
    refine zx_iload (q := 74) dd_Md_deliver_72 rfl rfl ?_
    refine zx_sipush (nI 238) (q := 77) dd_Md_deliver_74 rfl (by decide) ?_
    refine zx_icmp_eq 88 (q := 80) dd_Md_deliver_77 rfl (by decide) (fun hc2 => ?_) (fun hc2 => ?_)
    · skip
      refine zx_iconst (nI 1) (q := 89) dd_Md_deliver_88 rfl (by decide) ?_
      refine zx_goto 93 dd_Md_deliver_89 (by decide) ?_
      refine zx_istore_10 (q := 95) dd_Md_deliver_93 rfl (by decide) rfl ?_
      refine zx_iload (q := 97) dd_Md_deliver_95 rfl rfl ?_
      refine zx_if_eq 118 (q := 100) dd_Md_deliver_97 rfl (by decide) (fun hc3 => absurd hc3 (by decide)) (fun hc3 => ?_)
      refine zx_aload_n (q := 101) dd_Md_deliver_100 rfl rfl ?_
      refine zx_get (q := 104) dd_Md_deliver_101 rfl fl_Md_7 at_m rfl ?_
      refine zx_iload (q := 106) dd_Md_deliver_104 rfl rfl ?_
      refine zx_iald (q := 107) dd_Md_deliver_106 rfl at_m0 rfl (by omega) (by decide) ?_
      refine zx_if_eq 114 (q := 110) dd_Md_deliver_107 rfl (by decide) (fun hc4 => ?_) (fun hc4 => ?_)
      · skip
        refine zx_iconst (nI 0) (q := 115) dd_Md_deliver_114 rfl (by decide) ?_
        refine zx_goto 154 dd_Md_deliver_115 (by decide) ?_
        refine zx_istore_11 (q := 156) dd_Md_deliver_154 rfl (by decide) rfl ?_
        refine zx_iload (q := 158) dd_Md_deliver_156 rfl rfl ?_
        refine zx_iload (q := 160) dd_Md_deliver_158 rfl rfl ?_
        refine zx_icmp_eq 187 (q := 163) dd_Md_deliver_160 rfl (by decide) (fun hc5 => ?_) (fun hc5 => ?_)
        · skip
          replace hc5 := eq_true ((nI_eq (a := i) (b := s) (by omega) (by omega)).mp hc5)
          refine zx_iincN_9 (q := 190) dd_Md_deliver_187 rfl (by decide) rfl ?_
          refine zx_goto 66 dd_Md_deliver_190 (by decide) ?_
          refine zx_fg (zx_fgp [_, _, _, _, _, _, _, _, _, _] _ 2) ?_
          have e : (if i = s then (t, fr, lo, I, J) else if pm_reached I fm tg i = true then pm_reach (t, fr, lo, I, J) i c s fm tg (id &&& nI 255) d else (t, fr, lo, I, J)) = (t, fr, lo, I, J) := by simp [pm_reached, eq_true hc2, eq_true hc4, hc5]
          simp only [hcl] at ih
          rw [e] at ih
          exact ih hw
        · skip
          replace hc5 : ¬ i = s := fun z => hc5 (by rw [z])
          refine zx_iload (q := 165) dd_Md_deliver_163 rfl rfl ?_
          refine zx_if_eq 187 (q := 168) dd_Md_deliver_165 rfl (by decide) (fun hc6 => ?_) (fun hc6 => absurd (by decide) hc6)
          refine zx_iincN_9 (q := 190) dd_Md_deliver_187 rfl (by decide) rfl ?_
          refine zx_goto 66 dd_Md_deliver_190 (by decide) ?_
          refine zx_fg (zx_fgp [_, _, _, _, _, _, _, _, _, _] _ 2) ?_
          have e : (if i = s then (t, fr, lo, I, J) else if pm_reached I fm tg i = true then pm_reach (t, fr, lo, I, J) i c s fm tg (id &&& nI 255) d else (t, fr, lo, I, J)) = (t, fr, lo, I, J) := by simp [pm_reached, eq_true hc2, eq_true hc4, hc5]
          simp only [hcl] at ih
          rw [e] at ih
          exact ih hw
      · skip
        refine zx_iconst (nI 1) (q := 111) dd_Md_deliver_110 rfl (by decide) ?_
        refine zx_goto 154 dd_Md_deliver_111 (by decide) ?_
        refine zx_istore_11 (q := 156) dd_Md_deliver_154 rfl (by decide) rfl ?_
        refine zx_iload (q := 158) dd_Md_deliver_156 rfl rfl ?_
        refine zx_iload (q := 160) dd_Md_deliver_158 rfl rfl ?_
        refine zx_icmp_eq 187 (q := 163) dd_Md_deliver_160 rfl (by decide) (fun hc7 => ?_) (fun hc7 => ?_)
        · skip
          replace hc7 := eq_true ((nI_eq (a := i) (b := s) (by omega) (by omega)).mp hc7)
          refine zx_iincN_9 (q := 190) dd_Md_deliver_187 rfl (by decide) rfl ?_
          refine zx_goto 66 dd_Md_deliver_190 (by decide) ?_
          refine zx_fg (zx_fgp [_, _, _, _, _, _, _, _, _, _] _ 2) ?_
          have e : (if i = s then (t, fr, lo, I, J) else if pm_reached I fm tg i = true then pm_reach (t, fr, lo, I, J) i c s fm tg (id &&& nI 255) d else (t, fr, lo, I, J)) = (t, fr, lo, I, J) := by simp [pm_reached, eq_true hc2, hc4, hc7]
          simp only [hcl] at ih
          rw [e] at ih
          exact ih hw
        · skip
          replace hc7 : ¬ i = s := fun z => hc7 (by rw [z])
          refine zx_iload (q := 165) dd_Md_deliver_163 rfl rfl ?_
          refine zx_if_eq 187 (q := 168) dd_Md_deliver_165 rfl (by decide) (fun hc8 => absurd hc8 (by decide)) (fun hc8 => ?_)
          refine zx_aload_n (q := 169) dd_Md_deliver_168 rfl rfl ?_
          refine zx_iload (q := 171) dd_Md_deliver_169 rfl rfl ?_
          refine zx_iload (q := 173) dd_Md_deliver_171 rfl rfl ?_
          refine zx_iload (q := 175) dd_Md_deliver_173 rfl rfl ?_
          refine zx_iload (q := 177) dd_Md_deliver_175 rfl rfl ?_
          refine zx_iload_n (q := 178) dd_Md_deliver_177 rfl rfl ?_
          refine zx_sipush (nI 255) (q := 181) dd_Md_deliver_178 rfl (by decide) ?_
          refine zx_iand (q := 182) dd_Md_deliver_181 rfl ?_
          refine zx_lload (q := 184) dd_Md_deliver_182 rfl rfl ?_
          refine zx_cV6v (q := 187) dd_Md_deliver_184 rfl cv_Md_deliver_136 ⟨rfl, rfl⟩ at_m rfl rfl (Nat.le_of_ble_eq_true rfl) ⟨Nat.zero_le _, Nat.zero_le _⟩ (ok_Md_reach hf hs hc hins hpk hexp hw fun D6 he6 hw6 => ⟨rfl, ?_⟩)
          obtain ⟨t6, fr6, lo6, I6, J6⟩ := D6
          refine zx_iincN_9 (q := 190) dd_Md_deliver_187 rfl (by decide) rfl ?_
          refine zx_goto 66 dd_Md_deliver_190 (by decide) ?_
          refine zx_fg (zx_fgp [_, _, _, _, _, _, _, _, _, _] _ 2) ?_
          have e : (if i = s then (t, fr, lo, I, J) else if pm_reached I fm tg i = true then pm_reach (t, fr, lo, I, J) i c s fm tg (id &&& nI 255) d else (t, fr, lo, I, J)) = (t6, fr6, lo6, I6, J6) := by simp [pm_reached, eq_true hc2, hc4, hc7, he6]
          simp only [hcl] at ih
          rw [e] at ih
          exact ih hw6
    · skip
      refine zx_iload (q := 82) dd_Md_deliver_80 rfl rfl ?_
      refine zx_sipush (nI 234) (q := 85) dd_Md_deliver_82 rfl (by decide) ?_
      refine zx_icmp_ne 92 (q := 88) dd_Md_deliver_85 rfl (by decide) (fun hc9 => ?_) (fun hc9 => ?_)
      · skip
        refine zx_iconst (nI 0) (q := 93) dd_Md_deliver_92 rfl (by decide) ?_
        refine zx_istore_10 (q := 95) dd_Md_deliver_93 rfl (by decide) rfl ?_
        refine zx_iload (q := 97) dd_Md_deliver_95 rfl rfl ?_
        refine zx_if_eq 118 (q := 100) dd_Md_deliver_97 rfl (by decide) (fun hc10 => ?_) (fun hc10 => absurd (by decide) hc10)
        refine zx_aload_n (q := 119) dd_Md_deliver_118 rfl rfl ?_
        refine zx_get (q := 122) dd_Md_deliver_119 rfl fl_Md_7 at_m rfl ?_
        refine zx_iload (q := 124) dd_Md_deliver_122 rfl rfl ?_
        refine zx_iald (q := 125) dd_Md_deliver_124 rfl at_m0 rfl (by omega) (by decide) ?_
        refine zx_iconst (nI 2) (q := 126) dd_Md_deliver_125 rfl (by decide) ?_
        refine zx_icmp_ne 153 (q := 129) dd_Md_deliver_126 rfl (by decide) (fun hc11 => ?_) (fun hc11 => ?_)
        · skip
          refine zx_iconst (nI 0) (q := 154) dd_Md_deliver_153 rfl (by decide) ?_
          refine zx_istore_11 (q := 156) dd_Md_deliver_154 rfl (by decide) rfl ?_
          refine zx_iload (q := 158) dd_Md_deliver_156 rfl rfl ?_
          refine zx_iload (q := 160) dd_Md_deliver_158 rfl rfl ?_
          refine zx_icmp_eq 187 (q := 163) dd_Md_deliver_160 rfl (by decide) (fun hc12 => ?_) (fun hc12 => ?_)
          · skip
            replace hc12 := eq_true ((nI_eq (a := i) (b := s) (by omega) (by omega)).mp hc12)
            refine zx_iincN_9 (q := 190) dd_Md_deliver_187 rfl (by decide) rfl ?_
            refine zx_goto 66 dd_Md_deliver_190 (by decide) ?_
            refine zx_fg (zx_fgp [_, _, _, _, _, _, _, _, _, _] _ 2) ?_
            have e : (if i = s then (t, fr, lo, I, J) else if pm_reached I fm tg i = true then pm_reach (t, fr, lo, I, J) i c s fm tg (id &&& nI 255) d else (t, fr, lo, I, J)) = (t, fr, lo, I, J) := by simp [pm_reached, hc2, hc9, hc11, hc12]
            simp only [hcl] at ih
            rw [e] at ih
            exact ih hw
          · skip
            replace hc12 : ¬ i = s := fun z => hc12 (by rw [z])
            refine zx_iload (q := 165) dd_Md_deliver_163 rfl rfl ?_
            refine zx_if_eq 187 (q := 168) dd_Md_deliver_165 rfl (by decide) (fun hc13 => ?_) (fun hc13 => absurd (by decide) hc13)
            refine zx_iincN_9 (q := 190) dd_Md_deliver_187 rfl (by decide) rfl ?_
            refine zx_goto 66 dd_Md_deliver_190 (by decide) ?_
            refine zx_fg (zx_fgp [_, _, _, _, _, _, _, _, _, _] _ 2) ?_
            have e : (if i = s then (t, fr, lo, I, J) else if pm_reached I fm tg i = true then pm_reach (t, fr, lo, I, J) i c s fm tg (id &&& nI 255) d else (t, fr, lo, I, J)) = (t, fr, lo, I, J) := by simp [pm_reached, hc2, hc9, hc11, hc12]
            simp only [hcl] at ih
            rw [e] at ih
            exact ih hw
        · skip
          refine zx_iload (q := 131) dd_Md_deliver_129 rfl rfl ?_
          refine zx_sipush (nI 255) (q := 134) dd_Md_deliver_131 rfl (by decide) ?_
          refine zx_icmp_eq 149 (q := 137) dd_Md_deliver_134 rfl (by decide) (fun hc14 => ?_) (fun hc14 => ?_)
          · skip
            refine zx_iconst (nI 1) (q := 150) dd_Md_deliver_149 rfl (by decide) ?_
            refine zx_goto 154 dd_Md_deliver_150 (by decide) ?_
            refine zx_istore_11 (q := 156) dd_Md_deliver_154 rfl (by decide) rfl ?_
            refine zx_iload (q := 158) dd_Md_deliver_156 rfl rfl ?_
            refine zx_iload (q := 160) dd_Md_deliver_158 rfl rfl ?_
            refine zx_icmp_eq 187 (q := 163) dd_Md_deliver_160 rfl (by decide) (fun hc15 => ?_) (fun hc15 => ?_)
            · skip
              replace hc15 := eq_true ((nI_eq (a := i) (b := s) (by omega) (by omega)).mp hc15)
              refine zx_iincN_9 (q := 190) dd_Md_deliver_187 rfl (by decide) rfl ?_
              refine zx_goto 66 dd_Md_deliver_190 (by decide) ?_
              refine zx_fg (zx_fgp [_, _, _, _, _, _, _, _, _, _] _ 2) ?_
              have e : (if i = s then (t, fr, lo, I, J) else if pm_reached I fm tg i = true then pm_reach (t, fr, lo, I, J) i c s fm tg (id &&& nI 255) d else (t, fr, lo, I, J)) = (t, fr, lo, I, J) := by simp [pm_reached, hc2, hc9, eq_true hc11, eq_true hc14, hc15]
              simp only [hcl] at ih
              rw [e] at ih
              exact ih hw
            · skip
              replace hc15 : ¬ i = s := fun z => hc15 (by rw [z])
              refine zx_iload (q := 165) dd_Md_deliver_163 rfl rfl ?_
              refine zx_if_eq 187 (q := 168) dd_Md_deliver_165 rfl (by decide) (fun hc16 => absurd hc16 (by decide)) (fun hc16 => ?_)
              refine zx_aload_n (q := 169) dd_Md_deliver_168 rfl rfl ?_
              refine zx_iload (q := 171) dd_Md_deliver_169 rfl rfl ?_
              refine zx_iload (q := 173) dd_Md_deliver_171 rfl rfl ?_
              refine zx_iload (q := 175) dd_Md_deliver_173 rfl rfl ?_
              refine zx_iload (q := 177) dd_Md_deliver_175 rfl rfl ?_
              refine zx_iload_n (q := 178) dd_Md_deliver_177 rfl rfl ?_
              refine zx_sipush (nI 255) (q := 181) dd_Md_deliver_178 rfl (by decide) ?_
              refine zx_iand (q := 182) dd_Md_deliver_181 rfl ?_
              refine zx_lload (q := 184) dd_Md_deliver_182 rfl rfl ?_
              refine zx_cV6v (q := 187) dd_Md_deliver_184 rfl cv_Md_deliver_136 ⟨rfl, rfl⟩ at_m rfl rfl (Nat.le_of_ble_eq_true rfl) ⟨Nat.zero_le _, Nat.zero_le _⟩ (ok_Md_reach hf hs hc hins hpk hexp hw fun D7 he7 hw7 => ⟨rfl, ?_⟩)
              obtain ⟨t7, fr7, lo7, I7, J7⟩ := D7
              refine zx_iincN_9 (q := 190) dd_Md_deliver_187 rfl (by decide) rfl ?_
              refine zx_goto 66 dd_Md_deliver_190 (by decide) ?_
              refine zx_fg (zx_fgp [_, _, _, _, _, _, _, _, _, _] _ 2) ?_
              have e : (if i = s then (t, fr, lo, I, J) else if pm_reached I fm tg i = true then pm_reach (t, fr, lo, I, J) i c s fm tg (id &&& nI 255) d else (t, fr, lo, I, J)) = (t7, fr7, lo7, I7, J7) := by simp [pm_reached, hc2, hc9, eq_true hc11, eq_true hc14, hc15, he7]
              simp only [hcl] at ih
              rw [e] at ih
              exact ih hw7
          · skip
            refine zx_iload (q := 139) dd_Md_deliver_137 rfl rfl ?_
            refine zx_aload_n (q := 140) dd_Md_deliver_139 rfl rfl ?_
            refine zx_get (q := 143) dd_Md_deliver_140 rfl fl_Md_13 at_m rfl ?_
            refine zx_iload (q := 145) dd_Md_deliver_143 rfl rfl ?_
            refine zx_iald (q := 146) dd_Md_deliver_145 rfl at_m1 rfl (by omega) (by decide) ?_
            refine zx_icmp_ne 153 (q := 149) dd_Md_deliver_146 rfl (by decide) (fun hc17 => ?_) (fun hc17 => ?_)
            · skip
              refine zx_iconst (nI 0) (q := 154) dd_Md_deliver_153 rfl (by decide) ?_
              refine zx_istore_11 (q := 156) dd_Md_deliver_154 rfl (by decide) rfl ?_
              refine zx_iload (q := 158) dd_Md_deliver_156 rfl rfl ?_
              refine zx_iload (q := 160) dd_Md_deliver_158 rfl rfl ?_
              refine zx_icmp_eq 187 (q := 163) dd_Md_deliver_160 rfl (by decide) (fun hc18 => ?_) (fun hc18 => ?_)
              · skip
                replace hc18 := eq_true ((nI_eq (a := i) (b := s) (by omega) (by omega)).mp hc18)
                refine zx_iincN_9 (q := 190) dd_Md_deliver_187 rfl (by decide) rfl ?_
                refine zx_goto 66 dd_Md_deliver_190 (by decide) ?_
                refine zx_fg (zx_fgp [_, _, _, _, _, _, _, _, _, _] _ 2) ?_
                have e : (if i = s then (t, fr, lo, I, J) else if pm_reached I fm tg i = true then pm_reach (t, fr, lo, I, J) i c s fm tg (id &&& nI 255) d else (t, fr, lo, I, J)) = (t, fr, lo, I, J) := by simp [pm_reached, hc2, hc9, eq_true hc11, hc14, hc17, hc18]
                simp only [hcl] at ih
                rw [e] at ih
                exact ih hw
              · skip
                replace hc18 : ¬ i = s := fun z => hc18 (by rw [z])
                refine zx_iload (q := 165) dd_Md_deliver_163 rfl rfl ?_
                refine zx_if_eq 187 (q := 168) dd_Md_deliver_165 rfl (by decide) (fun hc19 => ?_) (fun hc19 => absurd (by decide) hc19)
                refine zx_iincN_9 (q := 190) dd_Md_deliver_187 rfl (by decide) rfl ?_
                refine zx_goto 66 dd_Md_deliver_190 (by decide) ?_
                refine zx_fg (zx_fgp [_, _, _, _, _, _, _, _, _, _] _ 2) ?_
                have e : (if i = s then (t, fr, lo, I, J) else if pm_reached I fm tg i = true then pm_reach (t, fr, lo, I, J) i c s fm tg (id &&& nI 255) d else (t, fr, lo, I, J)) = (t, fr, lo, I, J) := by simp [pm_reached, hc2, hc9, eq_true hc11, hc14, hc17, hc18]
                simp only [hcl] at ih
                rw [e] at ih
                exact ih hw
            · skip
              refine zx_iconst (nI 1) (q := 150) dd_Md_deliver_149 rfl (by decide) ?_
              refine zx_goto 154 dd_Md_deliver_150 (by decide) ?_
              refine zx_istore_11 (q := 156) dd_Md_deliver_154 rfl (by decide) rfl ?_
              refine zx_iload (q := 158) dd_Md_deliver_156 rfl rfl ?_
              refine zx_iload (q := 160) dd_Md_deliver_158 rfl rfl ?_
              refine zx_icmp_eq 187 (q := 163) dd_Md_deliver_160 rfl (by decide) (fun hc20 => ?_) (fun hc20 => ?_)
              · skip
                replace hc20 := eq_true ((nI_eq (a := i) (b := s) (by omega) (by omega)).mp hc20)
                refine zx_iincN_9 (q := 190) dd_Md_deliver_187 rfl (by decide) rfl ?_
                refine zx_goto 66 dd_Md_deliver_190 (by decide) ?_
                refine zx_fg (zx_fgp [_, _, _, _, _, _, _, _, _, _] _ 2) ?_
                have e : (if i = s then (t, fr, lo, I, J) else if pm_reached I fm tg i = true then pm_reach (t, fr, lo, I, J) i c s fm tg (id &&& nI 255) d else (t, fr, lo, I, J)) = (t, fr, lo, I, J) := by simp [pm_reached, hc2, hc9, eq_true hc11, hc14, eq_true hc17, hc20]
                simp only [hcl] at ih
                rw [e] at ih
                exact ih hw
              · skip
                replace hc20 : ¬ i = s := fun z => hc20 (by rw [z])
                refine zx_iload (q := 165) dd_Md_deliver_163 rfl rfl ?_
                refine zx_if_eq 187 (q := 168) dd_Md_deliver_165 rfl (by decide) (fun hc21 => absurd hc21 (by decide)) (fun hc21 => ?_)
                refine zx_aload_n (q := 169) dd_Md_deliver_168 rfl rfl ?_
                refine zx_iload (q := 171) dd_Md_deliver_169 rfl rfl ?_
                refine zx_iload (q := 173) dd_Md_deliver_171 rfl rfl ?_
                refine zx_iload (q := 175) dd_Md_deliver_173 rfl rfl ?_
                refine zx_iload (q := 177) dd_Md_deliver_175 rfl rfl ?_
                refine zx_iload_n (q := 178) dd_Md_deliver_177 rfl rfl ?_
                refine zx_sipush (nI 255) (q := 181) dd_Md_deliver_178 rfl (by decide) ?_
                refine zx_iand (q := 182) dd_Md_deliver_181 rfl ?_
                refine zx_lload (q := 184) dd_Md_deliver_182 rfl rfl ?_
                refine zx_cV6v (q := 187) dd_Md_deliver_184 rfl cv_Md_deliver_136 ⟨rfl, rfl⟩ at_m rfl rfl (Nat.le_of_ble_eq_true rfl) ⟨Nat.zero_le _, Nat.zero_le _⟩ (ok_Md_reach hf hs hc hins hpk hexp hw fun D8 he8 hw8 => ⟨rfl, ?_⟩)
                obtain ⟨t8, fr8, lo8, I8, J8⟩ := D8
                refine zx_iincN_9 (q := 190) dd_Md_deliver_187 rfl (by decide) rfl ?_
                refine zx_goto 66 dd_Md_deliver_190 (by decide) ?_
                refine zx_fg (zx_fgp [_, _, _, _, _, _, _, _, _, _] _ 2) ?_
                have e : (if i = s then (t, fr, lo, I, J) else if pm_reached I fm tg i = true then pm_reach (t, fr, lo, I, J) i c s fm tg (id &&& nI 255) d else (t, fr, lo, I, J)) = (t8, fr8, lo8, I8, J8) := by simp [pm_reached, hc2, hc9, eq_true hc11, hc14, eq_true hc17, hc20, he8]
                simp only [hcl] at ih
                rw [e] at ih
                exact ih hw8
      · skip
        refine zx_iconst (nI 1) (q := 89) dd_Md_deliver_88 rfl (by decide) ?_
        refine zx_goto 93 dd_Md_deliver_89 (by decide) ?_
        refine zx_istore_10 (q := 95) dd_Md_deliver_93 rfl (by decide) rfl ?_
        refine zx_iload (q := 97) dd_Md_deliver_95 rfl rfl ?_
        refine zx_if_eq 118 (q := 100) dd_Md_deliver_97 rfl (by decide) (fun hc22 => absurd hc22 (by decide)) (fun hc22 => ?_)
        refine zx_aload_n (q := 101) dd_Md_deliver_100 rfl rfl ?_
        refine zx_get (q := 104) dd_Md_deliver_101 rfl fl_Md_7 at_m rfl ?_
        refine zx_iload (q := 106) dd_Md_deliver_104 rfl rfl ?_
        refine zx_iald (q := 107) dd_Md_deliver_106 rfl at_m0 rfl (by omega) (by decide) ?_
        refine zx_if_eq 114 (q := 110) dd_Md_deliver_107 rfl (by decide) (fun hc23 => ?_) (fun hc23 => ?_)
        · skip
          refine zx_iconst (nI 0) (q := 115) dd_Md_deliver_114 rfl (by decide) ?_
          refine zx_goto 154 dd_Md_deliver_115 (by decide) ?_
          refine zx_istore_11 (q := 156) dd_Md_deliver_154 rfl (by decide) rfl ?_
          refine zx_iload (q := 158) dd_Md_deliver_156 rfl rfl ?_
          refine zx_iload (q := 160) dd_Md_deliver_158 rfl rfl ?_
          refine zx_icmp_eq 187 (q := 163) dd_Md_deliver_160 rfl (by decide) (fun hc24 => ?_) (fun hc24 => ?_)
          · skip
            replace hc24 := eq_true ((nI_eq (a := i) (b := s) (by omega) (by omega)).mp hc24)
            refine zx_iincN_9 (q := 190) dd_Md_deliver_187 rfl (by decide) rfl ?_
            refine zx_goto 66 dd_Md_deliver_190 (by decide) ?_
            refine zx_fg (zx_fgp [_, _, _, _, _, _, _, _, _, _] _ 2) ?_
            have e : (if i = s then (t, fr, lo, I, J) else if pm_reached I fm tg i = true then pm_reach (t, fr, lo, I, J) i c s fm tg (id &&& nI 255) d else (t, fr, lo, I, J)) = (t, fr, lo, I, J) := by simp [pm_reached, hc2, eq_true hc9, eq_true hc23, hc24]
            simp only [hcl] at ih
            rw [e] at ih
            exact ih hw
          · skip
            replace hc24 : ¬ i = s := fun z => hc24 (by rw [z])
            refine zx_iload (q := 165) dd_Md_deliver_163 rfl rfl ?_
            refine zx_if_eq 187 (q := 168) dd_Md_deliver_165 rfl (by decide) (fun hc25 => ?_) (fun hc25 => absurd (by decide) hc25)
            refine zx_iincN_9 (q := 190) dd_Md_deliver_187 rfl (by decide) rfl ?_
            refine zx_goto 66 dd_Md_deliver_190 (by decide) ?_
            refine zx_fg (zx_fgp [_, _, _, _, _, _, _, _, _, _] _ 2) ?_
            have e : (if i = s then (t, fr, lo, I, J) else if pm_reached I fm tg i = true then pm_reach (t, fr, lo, I, J) i c s fm tg (id &&& nI 255) d else (t, fr, lo, I, J)) = (t, fr, lo, I, J) := by simp [pm_reached, hc2, eq_true hc9, eq_true hc23, hc24]
            simp only [hcl] at ih
            rw [e] at ih
            exact ih hw
        · skip
          refine zx_iconst (nI 1) (q := 111) dd_Md_deliver_110 rfl (by decide) ?_
          refine zx_goto 154 dd_Md_deliver_111 (by decide) ?_
          refine zx_istore_11 (q := 156) dd_Md_deliver_154 rfl (by decide) rfl ?_
          refine zx_iload (q := 158) dd_Md_deliver_156 rfl rfl ?_
          refine zx_iload (q := 160) dd_Md_deliver_158 rfl rfl ?_
          refine zx_icmp_eq 187 (q := 163) dd_Md_deliver_160 rfl (by decide) (fun hc26 => ?_) (fun hc26 => ?_)
          · skip
            replace hc26 := eq_true ((nI_eq (a := i) (b := s) (by omega) (by omega)).mp hc26)
            refine zx_iincN_9 (q := 190) dd_Md_deliver_187 rfl (by decide) rfl ?_
            refine zx_goto 66 dd_Md_deliver_190 (by decide) ?_
            refine zx_fg (zx_fgp [_, _, _, _, _, _, _, _, _, _] _ 2) ?_
            have e : (if i = s then (t, fr, lo, I, J) else if pm_reached I fm tg i = true then pm_reach (t, fr, lo, I, J) i c s fm tg (id &&& nI 255) d else (t, fr, lo, I, J)) = (t, fr, lo, I, J) := by simp [pm_reached, hc2, eq_true hc9, hc23, hc26]
            simp only [hcl] at ih
            rw [e] at ih
            exact ih hw
          · skip
            replace hc26 : ¬ i = s := fun z => hc26 (by rw [z])
            refine zx_iload (q := 165) dd_Md_deliver_163 rfl rfl ?_
            refine zx_if_eq 187 (q := 168) dd_Md_deliver_165 rfl (by decide) (fun hc27 => absurd hc27 (by decide)) (fun hc27 => ?_)
            refine zx_aload_n (q := 169) dd_Md_deliver_168 rfl rfl ?_
            refine zx_iload (q := 171) dd_Md_deliver_169 rfl rfl ?_
            refine zx_iload (q := 173) dd_Md_deliver_171 rfl rfl ?_
            refine zx_iload (q := 175) dd_Md_deliver_173 rfl rfl ?_
            refine zx_iload (q := 177) dd_Md_deliver_175 rfl rfl ?_
            refine zx_iload_n (q := 178) dd_Md_deliver_177 rfl rfl ?_
            refine zx_sipush (nI 255) (q := 181) dd_Md_deliver_178 rfl (by decide) ?_
            refine zx_iand (q := 182) dd_Md_deliver_181 rfl ?_
            refine zx_lload (q := 184) dd_Md_deliver_182 rfl rfl ?_
            refine zx_cV6v (q := 187) dd_Md_deliver_184 rfl cv_Md_deliver_136 ⟨rfl, rfl⟩ at_m rfl rfl (Nat.le_of_ble_eq_true rfl) ⟨Nat.zero_le _, Nat.zero_le _⟩ (ok_Md_reach hf hs hc hins hpk hexp hw fun D9 he9 hw9 => ⟨rfl, ?_⟩)
            obtain ⟨t9, fr9, lo9, I9, J9⟩ := D9
            refine zx_iincN_9 (q := 190) dd_Md_deliver_187 rfl (by decide) rfl ?_
            refine zx_goto 66 dd_Md_deliver_190 (by decide) ?_
            refine zx_fg (zx_fgp [_, _, _, _, _, _, _, _, _, _] _ 2) ?_
            have e : (if i = s then (t, fr, lo, I, J) else if pm_reached I fm tg i = true then pm_reach (t, fr, lo, I, J) i c s fm tg (id &&& nI 255) d else (t, fr, lo, I, J)) = (t9, fr9, lo9, I9, J9) := by simp [pm_reached, hc2, eq_true hc9, hc23, hc26, he9]
            simp only [hcl] at ih
            rw [e] at ih
            exact ih hw9
set_option maxRecDepth 100000 in
set_option maxHeartbeats 4000000 in
theorem ok_Md_deliver {E : zxE} {b n : Nat} {B : zB} {F : Nat → zFn} {D : zMd} {Q : Option Value → zxH → Nat → Prop} {keep : Bool} {s : Nat} (hw : D.2.1 ≤ 48) (hs5 : s < 5) (hs : ¬ D.2.1 = 0 → D.2.2.2.1 8 (pc_least (D.2.2.2.1 6) (D.2.1 - 1)) = nI s) (hz : ¬ D.2.1 = 0 → ∀ k < 5, zm (pm_rch s ((D.2.2.2.1 6 (pc_least (D.2.2.2.1 6) (D.2.1 - 1)) >>> (nI 16 &&& 31)) &&& nI 255) ((D.2.2.2.1 6 (pc_least (D.2.2.2.1 6) (D.2.1 - 1)) >>> (nI 8 &&& 31)) &&& nI 255) (D.2.2.2.1 6 (pc_least (D.2.2.2.1 6) (D.2.1 - 1)) &&& nI 255) (D.2.2.2.2 7 (pc_least (D.2.2.2.1 6) (D.2.1 - 1))) k (if keep = true then D else pm_take D (pc_least (D.2.2.2.1 6) (D.2.1 - 1)))) k) (hq : ∀ r D', pm_deliver D keep s = (r, D') → Q (some (.int (zb r))) (zs b (B, F, D')) n) : zx_Ok E my_Md_deliver mi_Md_deliver [.ref (b + 71), .int (zb keep)] (zs b (B, F, D)) n Q := by
  obtain ⟨t, fr, lo, I, J⟩ := D
  have hfr : fr ≤ 48 := hw
  have hs : ¬ fr = 0 → I 8 (pc_least (I 6) (fr - 1)) = nI s := hs
  have hz : ¬ fr = 0 → ∀ k < 5, zm (pm_rch s ((I 6 (pc_least (I 6) (fr - 1)) >>> (nI 16 &&& 31)) &&& nI 255) ((I 6 (pc_least (I 6) (fr - 1)) >>> (nI 8 &&& 31)) &&& nI 255) (I 6 (pc_least (I 6) (fr - 1)) &&& nI 255) (J 7 (pc_least (I 6) (fr - 1))) k (if keep = true then (t, fr, lo, I, J) else pm_take (t, fr, lo, I, J) (pc_least (I 6) (fr - 1)))) k := hz
  refine zx_start [some (.ref (b + 71)), some (.int (zb keep)), none, none, none, none, none, none, none, none, none, none] (by decide) rfl rfl (Nat.le_of_ble_eq_true rfl) rfl ?_
  refine zx_aload_n (q := 1) dd_Md_deliver_0 rfl rfl ?_
  refine zx_cV0i (q := 4) dd_Md_deliver_1 rfl cv_Md_deliver_128 ⟨rfl, rfl⟩ at_m rfl rfl (Nat.le_of_ble_eq_true rfl) ⟨Nat.zero_le _, Nat.zero_le _⟩ (ok_Md_next hw ⟨_, rfl, ?_⟩)
  refine zx_istore_2 (q := 5) dd_Md_deliver_4 rfl (by decide) rfl ?_
  refine zx_iload_n (q := 6) dd_Md_deliver_5 rfl rfl ?_
  refine zx_if_ge 11 (q := 9) dd_Md_deliver_6 rfl (by decide) (fun hc1 => ?_) (fun hc1 => ?_)
  · skip
    replace hc1 := (pc_next_ge hfr).mp hc1
    have hlt : pc_least (I 6) (fr - 1) < fr := by have := pc_least_le (I 6) (fr - 1); omega
    rw [show pc_next (I 6) fr = nI (pc_least (I 6) (fr - 1)) from if_neg hc1]
    have hs := hs hc1
    have hz := hz hc1
    refine zx_aload_n (q := 12) dd_Md_deliver_11 rfl rfl ?_
    refine zx_get (q := 15) dd_Md_deliver_12 rfl fl_Md_30 at_m rfl ?_
    refine zx_iload_n (q := 16) dd_Md_deliver_15 rfl rfl ?_
    refine zx_iald (q := 17) dd_Md_deliver_16 rfl at_m6 rfl (by omega) (by decide) ?_
    refine zx_istore_3 (q := 18) dd_Md_deliver_17 rfl (by decide) rfl ?_
    refine zx_aload_n (q := 19) dd_Md_deliver_18 rfl rfl ?_
    refine zx_get (q := 22) dd_Md_deliver_19 rfl fl_Md_33 at_m rfl ?_
    refine zx_iload_n (q := 23) dd_Md_deliver_22 rfl rfl ?_
    refine zx_lald (q := 24) dd_Md_deliver_23 rfl at_m7 rfl (by omega) (by decide) ?_
    refine zx_lstore_4 (q := 26) dd_Md_deliver_24 rfl (by decide) rfl ?_
    refine zx_aload_n (q := 27) dd_Md_deliver_26 rfl rfl ?_
    refine zx_get (q := 30) dd_Md_deliver_27 rfl fl_Md_36 at_m rfl ?_
    refine zx_iload_n (q := 31) dd_Md_deliver_30 rfl rfl ?_
    refine zx_iald (q := 32) dd_Md_deliver_31 rfl at_m8 rfl (by omega) (by decide) ?_
    refine zx_topi hs ?_
    refine zx_istore_6 (q := 34) dd_Md_deliver_32 rfl (by decide) rfl ?_
    refine zx_iload_n (q := 35) dd_Md_deliver_34 rfl rfl ?_
    refine zx_if_ne 43 (q := 38) dd_Md_deliver_35 rfl (by decide) (fun hc2 => ?_) (fun hc2 => ?_)
    · skip
      replace hc2 := zb_n0.mp hc2
      refine zx_iload_n (q := 44) dd_Md_deliver_43 rfl rfl ?_
      refine zx_bipush (nI 16) (q := 46) dd_Md_deliver_44 rfl (by decide) ?_
      refine zx_ishr (q := 47) dd_Md_deliver_46 rfl ?_
      refine zx_sipush (nI 255) (q := 50) dd_Md_deliver_47 rfl (by decide) ?_
      refine zx_iand (q := 51) dd_Md_deliver_50 rfl ?_
      refine zx_istore_7 (q := 53) dd_Md_deliver_51 rfl (by decide) rfl ?_
      refine zx_iload_n (q := 54) dd_Md_deliver_53 rfl rfl ?_
      refine zx_bipush (nI 8) (q := 56) dd_Md_deliver_54 rfl (by decide) ?_
      refine zx_ishr (q := 57) dd_Md_deliver_56 rfl ?_
      refine zx_sipush (nI 255) (q := 60) dd_Md_deliver_57 rfl (by decide) ?_
      refine zx_iand (q := 61) dd_Md_deliver_60 rfl ?_
      refine zx_istore_8 (q := 63) dd_Md_deliver_61 rfl (by decide) rfl ?_
      refine zx_iconst (nI 0) (q := 64) dd_Md_deliver_63 rfl (by decide) ?_
      refine zx_istore_9 (q := 66) dd_Md_deliver_64 rfl (by decide) rfl ?_
      refine zx_fg (zx_fgp [_, _, _, _, _, _, _, _, _, _] _ 2) ?_
      rw [hc2] at hz
      exact lo_Md_deliver hs5 hz (hq _ _ (by simp [pm_deliver, hc1, hc2])) 5 0 (by omega) hfr
    · skip
      replace hc2 := zb_0.mp hc2
      refine zx_aload_n (q := 39) dd_Md_deliver_38 rfl rfl ?_
      refine zx_iload_n (q := 40) dd_Md_deliver_39 rfl rfl ?_
      refine zx_cV1v (q := 43) dd_Md_deliver_40 rfl cv_Md_deliver_132 ⟨rfl, rfl⟩ at_m rfl rfl (Nat.le_of_ble_eq_true rfl) ⟨Nat.zero_le _, Nat.zero_le _⟩ (ok_Md_takeAway hw hlt ⟨rfl, ?_⟩)
      refine zx_iload_n (q := 44) dd_Md_deliver_43 rfl rfl ?_
      refine zx_bipush (nI 16) (q := 46) dd_Md_deliver_44 rfl (by decide) ?_
      refine zx_ishr (q := 47) dd_Md_deliver_46 rfl ?_
      refine zx_sipush (nI 255) (q := 50) dd_Md_deliver_47 rfl (by decide) ?_
      refine zx_iand (q := 51) dd_Md_deliver_50 rfl ?_
      refine zx_istore_7 (q := 53) dd_Md_deliver_51 rfl (by decide) rfl ?_
      refine zx_iload_n (q := 54) dd_Md_deliver_53 rfl rfl ?_
      refine zx_bipush (nI 8) (q := 56) dd_Md_deliver_54 rfl (by decide) ?_
      refine zx_ishr (q := 57) dd_Md_deliver_56 rfl ?_
      refine zx_sipush (nI 255) (q := 60) dd_Md_deliver_57 rfl (by decide) ?_
      refine zx_iand (q := 61) dd_Md_deliver_60 rfl ?_
      refine zx_istore_8 (q := 63) dd_Md_deliver_61 rfl (by decide) rfl ?_
      refine zx_iconst (nI 0) (q := 64) dd_Md_deliver_63 rfl (by decide) ?_
      refine zx_istore_9 (q := 66) dd_Md_deliver_64 rfl (by decide) rfl ?_
      refine zx_fg (zx_fgp [_, _, _, _, _, _, _, _, _, _] _ 2) ?_
      rw [hc2] at hz
      exact lo_Md_deliver hs5 hz (hq _ _ (by simp [pm_deliver, hc1, hc2])) 5 0 (by omega) (by show fr - 1 ≤ 48; omega)
  · skip
    replace hc1 : fr = 0 := Decidable.byContradiction fun z => hc1 ((pc_next_ge hfr).mpr z)
    refine zx_iconst (nI 0) (q := 10) dd_Md_deliver_9 rfl (by decide) ?_
    exact zx_zret dd_Md_deliver_10 rfl (by decide) (by rw [zb_f]; exact hq _ _ (by first | (simp [pm_deliver, hc1]; done) | (clear hq; simp_all [pm_deliver]; done)))
