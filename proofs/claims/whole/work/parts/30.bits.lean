/-! Bits: what the two systems say of identifiers and data, as natural numbers. -/
theorem nx_or (a b : Nat) : nI a ||| nI b = nI (a ||| b) := by
  apply Int32.toBitVec_inj.1
  show BitVec.ofNat 32 a ||| BitVec.ofNat 32 b = BitVec.ofNat 32 (a ||| b)
  apply BitVec.eq_of_getLsbD_eq
  intro i hi
  simp [hi]
theorem nx_255 (n : Nat) : nI n &&& nI 255 = nI (n % 256) := by
  rw [nx_and]
  congr 1
  exact Nat.and_two_pow_sub_one_eq_mod n 8
theorem nx_shr {n k : Nat} (hn : n < 2 ^ 31) (hk : k < 32) : nI n >>> (nI k &&& 31) = nI (n / 2 ^ k) := by
  apply b_ext
  intro i hi
  rw [b_sshr k hk _ hi]
  have hb : ∀ (m j : Nat), j < 32 → bt (nI m) j = m.testBit j := by
    intro m j hj
    show (BitVec.ofNat 32 m).getLsbD j = _
    rw [BitVec.getLsbD_ofNat]
    simp [hj]
  rw [hb _ _ hi, Nat.testBit_div_two_pow]
  by_cases h : k + i < 32
  · rw [if_pos h, hb _ _ h, Nat.add_comm]
  · rw [if_neg h, hb _ _ (by decide)]
    rw [Nat.testBit_lt_two_pow (by omega), Nat.testBit_lt_two_pow (Nat.lt_of_lt_of_le hn (Nat.pow_le_pow_right (by decide) (by omega)))]
theorem fb_k : ∀ k, k < 9 → 1 ≤ k → nI 8 * (nI k - nI 1) = nI (8 * (k - 1)) := by decide +kernel
theorem fb_n {n k : Nat} (hn : n < 2 ^ 64) (h1 : 1 ≤ k) (h8 : k ≤ 8) : pc_fb (lN n) (nI k) = nI (n / 2 ^ (8 * (k - 1)) % 256) := by
  unfold pc_fb
  rw [fb_k k (by omega) h1, wb_shr hn (by omega), lN_i, nx_255]
theorem shm_n {n k w : Nat} (hn : n < 2 ^ 64) (hkw : k + w ≤ 64) (hk : k < 64) (hw : w < 64) : (lN n >>> ((nI k).toInt64 &&& 63)) &&& lN (2 ^ w - 1) = lN (n / 2 ^ k % 2 ^ w) := by
  rw [wb_c k hk]
  apply wb_inj
  rw [Int64.toBitVec_and, Int64.toBitVec_shiftRight]
  show (lN n).toBitVec.sshiftRight ((lN k).toBitVec.smod 64).toNat &&& _ = _
  rw [wb_tb k, wb_sm k hk, BitVec.toNat_ofNat, Nat.mod_eq_of_lt (show k < 2 ^ 64 by omega), wb_tb, wb_tb, wb_tb]
  apply BitVec.eq_of_getLsbD_eq
  intro i hi
  rw [BitVec.getLsbD_and, BitVec.getLsbD_sshiftRight, BitVec.getLsbD_ofNat, BitVec.getLsbD_ofNat, BitVec.getLsbD_ofNat, Nat.testBit_two_pow_sub_one, Nat.testBit_mod_two_pow, Nat.testBit_div_two_pow]
  by_cases h : i < w
  · have h2 : k + i < 64 := by omega
    simp [h, hi, h2, Nat.add_comm]
  · simp [h]
theorem lo_n {n w : Nat} (hn : n < 2 ^ 64) (hw : w < 64) : lN n &&& lN (2 ^ w - 1) = lN (n % 2 ^ w) := wb_mask hn hw
theorem vb_1n {n : Nat} (hn : n < 2 ^ 64) : pm_fbk (lN n) = nI (n % 256) := by
  unfold pm_fbk
  rw [show lN 255 = lN (2 ^ 8 - 1) from rfl, lo_n hn (by decide), lN_i]
theorem vb_2n {n : Nat} (hn : n < 2 ^ 64) : pm_fb2 (lN n) = nI (n / 256 % 256) := by
  unfold pm_fb2
  rw [show lN 255 = lN (2 ^ 8 - 1) from rfl, shm_n hn (by decide) (by decide) (by decide), lN_i]
theorem vb_3n {n : Nat} (hn : n < 2 ^ 64) : pm_fb3 (lN n) = nI (n / 65536 % 256) := by
  unfold pm_fb3
  rw [show lN 255 = lN (2 ^ 8 - 1) from rfl, shm_n hn (by decide) (by decide) (by decide), lN_i]
theorem vb_gn {n : Nat} (hn : n < 2 ^ 64) : pm_grp (lN n) = nI (n / 1099511627776) := by
  unfold pm_grp
  rw [show lN 16777215 = lN (2 ^ 24 - 1) from rfl, shm_n hn (by decide) (by decide) (by decide), lN_i]
  congr 1
  exact Nat.mod_eq_of_lt (by omega)
theorem pf_group_n {n : Nat} (hn : n < 2 ^ 64) : pf_group (lN n) = nI (n / 1099511627776) := by
  unfold pf_group
  rw [wb_shr hn (by decide), lN_i]
theorem fb_1 (d : Int64) : pm_fbk d = pc_fb d (nI 1) := by
  obtain ⟨n, hn, rfl⟩ := wb_of d
  rw [vb_1n hn, fb_n hn (by decide) (by decide)]
  simp
theorem fb_2 (d : Int64) : pm_fb2 d = pc_fb d (nI 2) := by
  obtain ⟨n, hn, rfl⟩ := wb_of d
  rw [vb_2n hn, fb_n hn (by decide) (by decide)]
theorem fb_3 (d : Int64) : pm_fb3 d = pc_fb d (nI 3) := by
  obtain ⟨n, hn, rfl⟩ := wb_of d
  rw [vb_3n hn, fb_n hn (by decide) (by decide)]
theorem fb_g (d : Int64) : pm_grp d = pf_group d := by
  obtain ⟨n, hn, rfl⟩ := wb_of d
  rw [vb_gn hn, pf_group_n hn]
theorem fb_gl (d : Int64) : ∃ g, g < 16777216 ∧ pf_group d = nI g := by
  obtain ⟨n, hn, rfl⟩ := wb_of d
  exact ⟨_, by omega, pf_group_n hn⟩
theorem fb_lt (d : Int64) {k : Nat} (h1 : 1 ≤ k) (h8 : k ≤ 8) : ∃ v, v < 256 ∧ pc_fb d (nI k) = nI v := by
  obtain ⟨n, hn, rfl⟩ := wb_of d
  exact ⟨_, Nat.mod_lt _ (by decide), fb_n hn h1 h8⟩
theorem fb_by (d : Int64) {m : Nat} (hm : m < 7) : pm_byte d m = pc_fb d (nI (m + 2)) := by
  obtain ⟨n, hn, rfl⟩ := wb_of d
  unfold pm_byte
  rw [fb_n hn (by omega) (by omega), show lN 255 = lN (2 ^ 8 - 1) from rfl, shm_n hn (by omega) (by omega) (by decide), lN_i, show 8 * (m + 2 - 1) = 8 * m + 8 by omega]
/-- the second and third byte together -/
theorem fb_sz {d : Int64} : pc_fb d (nI 2) + (pc_fb d (nI 3) <<< (nI 8 &&& 31)) = pm_fb2 d + nI 256 * pm_fb3 d := by
  rw [fb_2, fb_3]
  congr 1
  obtain ⟨v, hv, e⟩ := fb_lt d (k := 3) (by decide) (by decide)
  rw [e]
  have : ∀ v, v < 256 → nI v <<< (nI 8 &&& 31) = nI 256 * nI v := by decide +kernel
  exact this v hv
theorem pk_n : ∀ z, z < 50 → pc_pk (nI z) = nI ((z + 6) / 7) ∧ pm_pk (nI z) = nI ((z + 6) / 7) := by decide +kernel
theorem sz_n : ∀ z, z < 50 → nI z &&& nI 255 = nI z ∧ nI z >>> (nI 8 &&& 31) = nI 0 := by decide +kernel
/-- the data of a control frame -/
def ctN (k a b c g : Nat) : Nat := k + a * 256 + b * 65536 + c * 16777216 + 255 * 4294967296 + g * 1099511627776
theorem ctN_lt {k a b c g : Nat} (hk : k < 256) (ha : a < 256) (hb : b < 256) (hc : c < 256) (hg : g < 16777216) : ctN k a b c g < 2 ^ 64 := by
  unfold ctN
  omega
theorem sl8 : ∀ v, v < 256 → (nI v <<< (nI 8 &&& 31)) = nI (v * 256) := by decide +kernel
theorem sl16 : ∀ v, v < 256 → (nI v <<< (nI 16 &&& 31)) = nI (v * 65536) := by decide +kernel
theorem pc_ctl_n {k a b c g : Nat} (hk : k < 256) (ha : a < 256) (hb : b < 256) (hc : c < 256) (hg : g < 16777216) : pc_ctl (nI k) (nI a) (nI b) (nI c) (nI g) = lN (ctN k a b c g) := by
  unfold pc_ctl
  rw [sl8 a ha, sl16 b hb, nI_l (n := g) (by omega), nI_l (n := c) (by omega), nI_l (n := b * 65536) (by omega), nI_l (n := a * 256) (by omega), nI_l (n := k) (by omega), wb_shl _ (by decide), wb_shl _ (by decide), lN_add, lN_add, lN_add, lN_add, lN_add]
  congr 1
  unfold ctN
  omega
theorem pm_ctl_n {k a b c g : Nat} (hk : k < 256) (ha : a < 256) (hb : b < 256) (hc : c < 256) (hg : g < 16777216) : pm_ctl (nI k) (nI a) (nI b) (nI c) (nI g) = lN (ctN k a b c g) := by
  unfold pm_ctl
  rw [nI_l (n := g) (by omega), nI_l (n := c) (by omega), nI_l (n := b) (by omega), nI_l (n := a) (by omega), nI_l (n := k) (by omega), wb_shl _ (by decide), wb_shl _ (by decide), wb_shl _ (by decide), wb_shl _ (by decide)]
  rw [g_or' (k := 8) (p := 2 ^ 8) rfl (by omega) (by omega), g_or' (k := 16) (p := 2 ^ 16) rfl (by omega) (by omega), g_or' (k := 24) (p := 2 ^ 24) rfl (by omega) (by omega), show lN 1095216660480 = lN (255 * 2 ^ 32) from rfl, g_or' (k := 32) (p := 2 ^ 32) rfl (by omega) (by omega), g_or' (k := 40) (p := 2 ^ 40) rfl (by omega) (by omega)]
  rfl
theorem ct_1 {k a b c g : Nat} (hk : k < 256) (ha : a < 256) (hb : b < 256) (hc : c < 256) (hg : g < 16777216) : pc_fb (lN (ctN k a b c g)) (nI 1) = nI k := by
  rw [fb_n (ctN_lt hk ha hb hc hg) (by decide) (by decide)]
  congr 1
  unfold ctN
  omega
theorem ct_2 {k a b c g : Nat} (hk : k < 256) (ha : a < 256) (hb : b < 256) (hc : c < 256) (hg : g < 16777216) : pc_fb (lN (ctN k a b c g)) (nI 2) = nI a := by
  rw [fb_n (ctN_lt hk ha hb hc hg) (by decide) (by decide)]
  congr 1
  unfold ctN
  omega
theorem ct_3 {k a b c g : Nat} (hk : k < 256) (ha : a < 256) (hb : b < 256) (hc : c < 256) (hg : g < 16777216) : pc_fb (lN (ctN k a b c g)) (nI 3) = nI b := by
  rw [fb_n (ctN_lt hk ha hb hc hg) (by decide) (by decide)]
  congr 1
  unfold ctN
  omega
/-- the identifier of a frame -/
def idN (pr fm tg sr : Nat) : Nat := pr * 67108864 + fm * 65536 + tg * 256 + sr
theorem pm_id_n {pr fm tg sr : Nat} (hp : pr < 32) (hf : fm < 256) (ht : tg < 256) (hs : sr < 256) : pm_id (nI pr) (nI fm) (nI tg) (nI sr) = nI (idN pr fm tg sr) := by
  unfold pm_id
  have h26 : ∀ v, v < 32 → (nI v <<< (nI 26 &&& 31)) = nI (2 ^ 26 * v) := by decide +kernel
  have h16 : ∀ v, v < 256 → (nI v <<< (nI 16 &&& 31)) = nI (2 ^ 16 * v) := by decide +kernel
  have h8 : ∀ v, v < 256 → (nI v <<< (nI 8 &&& 31)) = nI (2 ^ 8 * v) := by decide +kernel
  rw [h26 pr hp, h16 fm hf, h8 tg ht, nx_or, nx_or, nx_or]
  congr 1
  rw [← Nat.two_pow_add_eq_or_of_lt (show 2 ^ 16 * fm < 2 ^ 26 by omega)]
  rw [show 2 ^ 26 * pr + 2 ^ 16 * fm = 2 ^ 16 * (2 ^ 10 * pr + fm) by omega, ← Nat.two_pow_add_eq_or_of_lt (show 2 ^ 8 * tg < 2 ^ 16 by omega)]
  rw [show 2 ^ 16 * (2 ^ 10 * pr + fm) + 2 ^ 8 * tg = 2 ^ 8 * (2 ^ 18 * pr + 2 ^ 8 * fm + tg) by omega, ← Nat.two_pow_add_eq_or_of_lt (show sr < 2 ^ 8 by omega)]
  unfold idN
  omega
theorem pc_id_n {hd tg sr : Nat} (ht : tg < 256) : nI hd + (nI tg <<< (nI 8 &&& 31)) + nI sr = nI (hd + tg * 256 + sr) := by
  rw [sl8 tg ht, nI_add, nI_add]
theorem id_src {pr fm tg sr : Nat} (hp : pr < 8) (hf : fm < 256) (ht : tg < 256) (hs : sr < 256) : nI (idN pr fm tg sr) &&& nI 255 = nI sr := by
  rw [nx_255]
  congr 1
  unfold idN
  omega
theorem id_tg {pr fm tg sr : Nat} (hp : pr < 8) (hf : fm < 256) (ht : tg < 256) (hs : sr < 256) : (nI (idN pr fm tg sr) >>> (nI 8 &&& 31)) &&& nI 255 = nI tg := by
  rw [nx_shr (by unfold idN; omega) (by decide), nx_255]
  congr 1
  unfold idN
  omega
theorem id_fm {pr fm tg sr : Nat} (hp : pr < 8) (hf : fm < 256) (ht : tg < 256) (hs : sr < 256) : (nI (idN pr fm tg sr) >>> (nI 16 &&& 31)) &&& nI 255 = nI fm := by
  rw [nx_shr (by unfold idN; omega) (by decide), nx_255]
  congr 1
  unfold idN
  omega
theorem id_fm2 {pr fm tg sr : Nat} (hp : pr < 8) (hf : fm < 256) (ht : tg < 256) (hs : sr < 256) : (nI (idN pr fm tg sr) >>> (nI 16 &&& 31)) &&& nI 1023 = nI fm := by
  rw [nx_shr (by unfold idN; omega) (by decide), nx_and]
  congr 1
  rw [show (1023 : Nat) = 2 ^ 10 - 1 from rfl, Nat.and_two_pow_sub_one_eq_mod]
  unfold idN
  omega
/-- a packet's data -/
theorem val_n (si : Int32) (se : Int64) (i : Int32) : ∃ v, v < 256 ∧ pc_val si se i = lN v := by
  unfold pc_val
  split
  · exact ⟨255, by decide, rfl⟩
  · generalize (se >>> ((nI 8 * (i - i / nI 8 * nI 8)).toInt64 &&& 63)) + i.toInt64 = w
    obtain ⟨n, hn, rfl⟩ := wb_of w
    rw [show lN 255 = lN (2 ^ 8 - 1) from rfl, lo_n hn (by decide)]
    exact ⟨_, Nat.mod_lt _ (by decide), rfl⟩
theorem ix_n (k : Int32) (m : Nat) : nI 7 * (k - nI 1) + nI m = nI 7 * k - nI 7 + nI m := by
  rw [Int32.mul_sub]
  rfl
theorem acc_n {si : Int32} {se : Int64} {k : Nat} (hk : k < 256) : ∀ m, m ≤ 7 → ∃ n, n < 2 ^ (8 * (m + 1)) ∧ pc_acc si se (nI k) m = lN n ∧ pm_acc si se (nI k) m = lN n
  | 0, _ => ⟨k, hk, nI_l (by omega), nI_l (by omega)⟩
  | m + 1, h => by
    obtain ⟨n, h1, h2, h3⟩ := acc_n (si := si) (se := se) hk m (by omega)
    obtain ⟨v, hv, e⟩ := val_n si se (nI 7 * nI k - nI 7 + nI m)
    have hp : (2 : Nat) ^ (8 * (m + 1 + 1)) = 256 * 2 ^ (8 * (m + 1)) := by rw [show 8 * (m + 1 + 1) = 8 + 8 * (m + 1) by omega, Nat.pow_add]
    have hle : (2 : Nat) ^ (8 * (m + 1 + 1)) ≤ 2 ^ 64 := Nat.pow_le_pow_right (by decide) (by omega)
    have hvm : v * 2 ^ (8 * (m + 1)) + 2 ^ (8 * (m + 1)) ≤ 256 * 2 ^ (8 * (m + 1)) := by
      have := Nat.mul_le_mul_right (2 ^ (8 * (m + 1))) (show v + 1 ≤ 256 by omega)
      rw [Nat.add_mul, Nat.one_mul] at this
      exact this
    refine ⟨n + v * 2 ^ (8 * (m + 1)), by omega, ?_, ?_⟩
    · show pc_acc si se (nI k) m + (pc_val si se (nI 7 * (nI k - nI 1) + nI m) <<< ((nI (8 * (m + 1))).toInt64 &&& 63)) = _
      rw [ix_n, h2, e, wb_shl _ (by omega), lN_add]
    · show pm_acc si se (nI k) m ||| (pc_val si se (nI 7 * nI k - nI 7 + nI m) <<< ((nI (8 * m + 8)).toInt64 &&& 63)) = _
      rw [h3, e, wb_shl _ (by omega), show 8 * m + 8 = 8 * (m + 1) by omega, g_or' (k := 8 * (m + 1)) rfl h1 (by omega)]
theorem acc_eq {si : Int32} {se : Int64} {k : Nat} (hk : k < 256) : pc_acc si se (nI k) 7 = pm_acc si se (nI k) 7 := by
  obtain ⟨n, h1, h2, h3⟩ := acc_n (si := si) (se := se) hk 7 (by decide)
  rw [h2, h3]
theorem less_eq (x y : Int64) : pf_less x y = pm_below x y := by
  unfold pf_less pm_below
  have h1 : (x ^^^ (-9223372036854775808) < y ^^^ (-9223372036854775808)) ↔ uN x < uN y := by
    have h := uN_le y x
    rw [Int64.le_iff_toInt_le] at h
    rw [Int64.lt_iff_toInt_lt]
    omega
  have hx := uN_int x
  have hy := uN_int y
  have lx := uN_lt x
  have ly := uN_lt y
  have e1 : (x < lN 0) ↔ x.toInt < 0 := by rw [Int64.lt_iff_toInt_lt]; rfl
  have e2 : (y < lN 0) ↔ y.toInt < 0 := by rw [Int64.lt_iff_toInt_lt]; rfl
  have e3 : (x < y) ↔ x.toInt < y.toInt := Int64.lt_iff_toInt_lt
  by_cases a : x < lN 0
  · by_cases b : y < lN 0
    · rw [if_pos (by simp [a, b])]
      apply decide_eq_decide.mpr
      rw [h1, e3]
      rw [e1] at a
      rw [e2] at b
      omega
    · rw [if_neg (by simp [a, b])]
      apply decide_eq_decide.mpr
      rw [h1]
      rw [e1] at a
      rw [e2] at b ⊢
      omega
  · by_cases b : y < lN 0
    · rw [if_neg (by simp [a, b])]
      apply decide_eq_decide.mpr
      rw [h1]
      rw [e1] at a
      rw [e2] at b ⊢
      omega
    · rw [if_pos (by simp [a, b])]
      apply decide_eq_decide.mpr
      rw [h1, e3]
      rw [e1] at a
      rw [e2] at b
      omega
theorem nar_zb (x : Bool) : vp_nar .boolean (zb x) = zb x := by cases x <;> decide +kernel
