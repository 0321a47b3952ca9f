theorem b_byte (zx : Int32) {zi : Nat} (hi : zi < 32) : bt zx.toInt8.toInt32 zi = if zi < 8 then bt zx zi else bt zx 7 := by
  unfold bt
  rw [Int8.toBitVec_toInt32, BitVec.getLsbD_signExtend, Int32.toBitVec_toInt8, BitVec.msb_eq_getLsbD_last, BitVec.getLsbD_signExtend, BitVec.getLsbD_signExtend]
  by_cases z : zi < 8
  · simp [hi, z, show zi < 32 by omega]
  · simp [hi, z]
theorem b_short (zx : Int32) {zi : Nat} (hi : zi < 32) : bt zx.toInt16.toInt32 zi = if zi < 16 then bt zx zi else bt zx 15 := by
  unfold bt
  rw [Int16.toBitVec_toInt32, BitVec.getLsbD_signExtend, Int32.toBitVec_toInt16, BitVec.msb_eq_getLsbD_last, BitVec.getLsbD_signExtend, BitVec.getLsbD_signExtend]
  by_cases z : zi < 16
  · simp [hi, z, show zi < 32 by omega]
  · simp [hi, z]
theorem ln_eq (za zv : Int32) : lnI za zv = lnC za zv := by
  unfold lnI lnC
  have h1 : (zv <<< ((24 : Int32) &&& 31)) >>> ((24 : Int32) &&& 31) = zv.toInt8.toInt32 := by
    apply b_ext
    intro zi hi
    rw [b_byte zv hi]
    refine (b_sshr 24 (by omega) _ hi).trans ?_
    by_cases z : zi < 8
    · rw [if_pos (by omega), if_pos z]
      refine (b_shl 24 (by omega) zv (by omega)).trans ?_
      rw [show 24 + zi - 24 = zi by omega]
      simp
    · rw [if_neg (by omega), if_neg z]
      exact (b_shl 24 (by omega) zv (by omega)).trans (by simp)
  have h2 : (zv <<< ((16 : Int32) &&& 31)) >>> ((16 : Int32) &&& 31) = zv.toInt16.toInt32 := by
    apply b_ext
    intro zi hi
    rw [b_short zv hi]
    refine (b_sshr 16 (by omega) _ hi).trans ?_
    by_cases z : zi < 16
    · rw [if_pos (by omega), if_pos z]
      refine (b_shl 16 (by omega) zv (by omega)).trans ?_
      rw [show 16 + zi - 16 = zi by omega]
      simp
    · rw [if_neg (by omega), if_neg z]
      exact (b_shl 16 (by omega) zv (by omega)).trans (by simp)
  rw [h1, h2]
theorem bt_l (zx : Int64) {zj : Nat} (hj : zj < 32) : bt zx.toInt32 zj = lbt zx zj := by
  unfold bt lbt
  rw [Int64.toBitVec_toInt32, BitVec.getLsbD_signExtend]
  simp [hj, show zj < 64 by omega]
theorem lb_sr (zx : Int64) {zi zj : Nat} (hi : zi < 64) (hj : zi + zj < 64) : lbt (zx >>> (Int32.toInt64 (nI zi) &&& 63)) zj = lbt zx (zi + zj) := by
  have hs : (Int32.toInt64 (nI zi) &&& 63).toBitVec.smod 64 = BitVec.ofNat 64 zi := by rw [wb_c zi hi, wb_tb, wb_sm zi hi]
  unfold lbt
  rw [Int64.toBitVec_shiftRight]
  show (zx.toBitVec.sshiftRight ((Int32.toInt64 (nI zi) &&& 63).toBitVec.smod 64).toNat).getLsbD zj = _
  rw [hs, BitVec.toNat_ofNat, Nat.mod_eq_of_lt (show zi < 2 ^ 64 by omega), BitVec.getLsbD_sshiftRight, if_pos hj]
  simp [show ¬ 64 ≤ zj by omega]
theorem lb_ur (zx : Int64) {zi zj : Nat} (hi : zi < 64) : lbt ((zx.toUInt64 >>> ((Int32.toInt64 (nI zi)).toUInt64 &&& Int64.toUInt64 63)).toInt64) zj = lbt zx (zi + zj) := by
  have hs : ((Int32.toInt64 (nI zi)).toUInt64 &&& Int64.toUInt64 63).toNat = zi := by rw [wb_cu zi hi]; exact u_tn (by omega)
  have e : (zx.toUInt64 >>> ((Int32.toInt64 (nI zi)).toUInt64 &&& Int64.toUInt64 63)).toInt64.toBitVec = zx.toBitVec >>> zi := by
    apply BitVec.eq_of_toNat_eq
    show (zx.toUInt64 >>> ((Int32.toInt64 (nI zi)).toUInt64 &&& Int64.toUInt64 63)).toNat = _
    rw [UInt64.toNat_shiftRight, hs, Nat.mod_eq_of_lt hi, BitVec.toNat_ushiftRight]
    rfl
  unfold lbt
  rw [e, BitVec.getLsbD_ushiftRight]
theorem fd_byte (zv : Int64) {zi : Nat} (hi : zi < 8) : ∃ zc, zc < 256 ∧ fdB zv zi = nI zc ∧ cdB zv zi = sbI zc := by
  obtain ⟨zc, h1, h2⟩ := pk_andE ((zv >>> ((nI (56 - 8 * zi)).toInt64 &&& 63)).toInt32) (m := 255) 8 (by decide)
  refine ⟨zc, h1, h2, ?_⟩
  unfold cdB sbI
  rw [← h2, fa_byte_low, ← fa_byte_low ((zv.toUInt64 >>> ((Int32.toInt64 (nI (56 - 8 * zi))).toUInt64 &&& Int64.toUInt64 63)).toInt64).toInt32, ← fa_byte_low ((zv >>> ((nI (56 - 8 * zi)).toInt64 &&& 63)).toInt32)]
  congr 2
  apply b_ext
  intro zj hj
  rw [b_and, b_and, b_255]
  by_cases z : zj < 8
  · rw [bt_l _ hj, bt_l _ hj, lb_ur zv (by omega), lb_sr zv (by omega) (by omega)]
  · rw [decide_eq_false z, Bool.and_false, Bool.and_false]
theorem fdF_at (zf : Nat → Int32) (zv : Int64) (zq : Nat) : ∀ zn zk, fdF zf zv zq zn zk = if zq ≤ zk ∧ zk < zq + zn then fdB zv (zk - zq) else zf zk
  | 0, zk => by rw [fdF, if_neg (by omega)]
  | zn + 1, zk => by
    rw [fdF]
    unfold upd
    by_cases z : zk = zq + zn
    · rw [if_pos z, if_pos (by omega), show zk - zq = zn by omega]
    · rw [if_neg z, fdF_at zf zv zq zn zk]
      by_cases y : zq ≤ zk ∧ zk < zq + zn
      · rw [if_pos y, if_pos (by omega)]
      · rw [if_neg y, if_neg (by omega)]
theorem cdF_at (zf : Nat → Int32) (zv : Int64) (zq : Nat) : ∀ zn zk, cdF zf zv zq zn zk = if zq ≤ zk ∧ zk < zq + zn then cdB zv (zk - zq) else zf zk
  | 0, zk => by rw [cdF, if_neg (by omega)]
  | zn + 1, zk => by
    rw [cdF]
    unfold upd
    by_cases z : zk = zq + zn
    · rw [if_pos z, if_pos (by omega), show zk - zq = zn by omega]
    · rw [if_neg z, cdF_at zf zv zq zn zk]
      by_cases y : zq ≤ zk ∧ zk < zq + zn
      · rw [if_pos y, if_pos (by omega)]
      · rw [if_neg y, if_neg (by omega)]
theorem st_feed (E : ME) {zn : Nat} {zh : AH} (hi : InV zn zh) (zv : Int64) : StI E zn mX10_feed mX11_feed 1 0 [.long zv] zh := by
  obtain ⟨zw, ⟨zb, zq, z1, z2⟩, zS, zF, zB, zH, zX⟩ := id hi
  have c1 := cn_X10_feed E zh zv zq zw z1.1 z1.2.1
  by_cases zc : zq + 8 ≤ 400
  · rw [if_pos zc, if_pos zc] at c1
    have c2 := cn_X11_feed E (sI (sI zh 2 (cdF (zh.2.1 2) zv zq 8)) 1 (upd (zh.2.1 1) 1 (nI (zq + 8)))) zv zq zw z2.1 z1.2.1
    rw [if_pos zc, if_pos zc] at c2
    refine StI_mk c1 zw c2 rfl ⟨zw, ⟨fun zk => if zq ≤ zk ∧ zk < zq + 8 then (fdB zv (zk - zq)).toNatClampNeg else zb zk, zq + 8, ⟨rfl, zc, fun zk hk => ?_⟩, ⟨rfl, zc, fun zk hk => ?_⟩⟩, IvS_c zS ⟨fun zk y1 y2 y3 => ?_, rfl, rfl, rfl, rfl⟩ ⟨rfl, rfl, rfl, fun zk y1 y2 => ?_⟩, IvF_c zF ⟨rfl, rfl, rfl, rfl, rfl, rfl⟩ ⟨rfl, rfl, rfl⟩, IvB_c zB ⟨rfl, rfl⟩ ⟨rfl, rfl⟩, IvH_c zH (fun zk y1 y2 => ?_) ⟨rfl, rfl, rfl⟩, IvX_c zX ⟨rfl, rfl⟩ ⟨rfl, rfl, rfl, rfl⟩⟩
    · show cdF (zh.2.1 2) zv zq 8 zk = _ ∧ _
      rw [cdF_at]
      dsimp only
      by_cases y : zq ≤ zk ∧ zk < zq + 8
      · rw [if_pos y, if_pos y]
        obtain ⟨zc, y1, y2, y3⟩ := fd_byte zv (show zk - zq < 8 by omega)
        rw [y2, y3, nI_clamp (by omega)]
        exact ⟨rfl, y1⟩
      · rw [if_neg y, if_neg y]
        exact z1.2.2 zk (by omega)
    · show fdF (zh.2.1 50) zv zq 8 zk = _ ∧ _
      rw [fdF_at]
      dsimp only
      by_cases y : zq ≤ zk ∧ zk < zq + 8
      · rw [if_pos y, if_pos y]
        obtain ⟨zc, y1, y2, y3⟩ := fd_byte zv (show zk - zq < 8 by omega)
        rw [y2, nI_clamp (by omega)]
        exact ⟨rfl, y1⟩
      · rw [if_neg y, if_neg y]
        exact z2.2.2 zk (by omega)
    · rw [sI_ne _ _ (by omega), sI_ne _ _ (by omega), sI_ne _ _ (by omega), sI_ne _ _ (by omega)]
    · rw [sI_ne _ _ (by omega), sI_ne _ _ (by omega), sI_ne _ _ (by omega), sI_ne _ _ (by omega)]
    · rw [sI_ne _ _ (by omega), sI_ne _ _ (by omega), sI_ne _ _ (by omega), sI_ne _ _ (by omega)]
  · rw [if_neg zc, if_neg zc] at c1
    have c2 := cn_X11_feed E zh zv zq zw z2.1 z1.2.1
    rw [if_neg zc, if_neg zc] at c2
    exact StI_mk c1 zw c2 rfl (InV_s hi)
theorem shz_at (zf : Nat → Int32) (zk : Nat) : ∀ zn zj, shz zf zk zn zj = if 64 * zk ≤ zj ∧ zj < 64 * zk + zn then 0 else zf zj
  | 0, zj => by rw [shz, if_neg (by omega)]
  | zn + 1, zj => by
    rw [shz]
    unfold upd
    by_cases z : zj = 64 * zk + zn
    · rw [if_pos z, if_pos (by omega)]
    · rw [if_neg z, shz_at zf zk zn zj]
      by_cases y : 64 * zk ≤ zj ∧ zj < 64 * zk + zn
      · rw [if_pos y, if_pos (by omega)]
      · rw [if_neg y, if_neg (by omega)]
theorem st_sheet_0 (E : ME) {zn : Nat} {zh : AH} (hi : InV zn zh) (zv zl : Int32) : StI E zn mX10_sheet mX11_sheet 2 1 [.int 0, .int zv, .int zl] zh := by
  obtain ⟨zw, zT, zS, zF, zB, ⟨h0, h1, h2, h3⟩, zX⟩ := id hi
  have c1 := cn_X10_sheet_0 E zh zv zl zw
  have zk : (0 : Int32) ≤ 0 ∧ (0 : Int32) ≤ 3 := by decide
  by_cases zc : (0 ≤ zv ∧ zv ≤ 2) ∧ zl ≤ 64
  · have zkc : ((0 : Int32) ≤ 0 ∧ (0 : Int32) ≤ 3) ∧ (0 ≤ zv ∧ zv ≤ 2) ∧ zl ≤ 64 := ⟨zk, zc⟩
    by_cases z0 : zl < 0
    · rw [if_pos zc, if_pos zc, if_pos z0, if_pos z0] at c1
      have c2 := cn_X11_sheet E zh 0 zv zl zw
      rw [if_pos zkc, if_pos zkc, if_pos z0, if_pos z0] at c2
      exact StI_mk c1 zw c2 rfl (InV_s hi)
    rw [if_pos zc, if_pos zc, if_neg z0, if_neg z0] at c1
    have c2 := cn_X11_sheet E (sI (sI zh 42 (flI 0 (zh.2.1 42) 64)) 41 (upd (upd (upd (zh.2.1 41) 1 1) 2 zv) 3 zl)) 0 zv zl zw
    rw [if_pos zkc, if_pos zkc, if_neg z0, if_neg z0, show (0 : Int32).toNatClampNeg = 0 from rfl] at c2
    obtain ⟨y1, y2⟩ := cl_le (zx := zl) (za := 64) ⟨(i_lt2 _ _).mp z0, zc.2⟩ (by decide)
    have y3 : ¬ zv = -4 := fun z => by rw [z] at zc; exact absurd zc.1.1 (by decide)
    refine StI_mk c1 zw c2 rfl ⟨zw, IvT_c zT ⟨rfl, rfl⟩ ⟨rfl, rfl⟩, IvS_c zS ⟨fun zk y1 y2 y3 => ?_, rfl, rfl, rfl, rfl⟩ ⟨rfl, rfl, rfl, fun zk y1 y2 => ?_⟩, IvF_c zF ⟨rfl, rfl, rfl, rfl, rfl, rfl⟩ ⟨rfl, rfl, rfl⟩, IvB_c zB ⟨rfl, rfl⟩ ⟨rfl, rfl⟩, ⟨⟨zl.toNatClampNeg, y1, y2, y2, Or.inr rfl, rfl, y3, fun zi hz => ?_⟩, ?_, ?_, ?_⟩, IvX_c zX ⟨rfl, rfl⟩ ⟨rfl, rfl, rfl, rfl⟩⟩
    · rw [sI_ne _ _ (by omega), sI_ne _ _ (by omega), sI_ne _ _ (by omega), sI_ne _ _ (by omega), sI_ne _ _ (by omega)]
    · rw [sI_ne _ _ (by omega), sI_ne _ _ (by omega), sI_ne _ _ (by omega), sI_ne _ _ (by omega), sI_ne _ _ (by omega)]
    · show flI 0 (zh.2.1 42) 64 zi = shz (zh.2.1 75) 0 64 (64 * 0 + zi)
      rw [flI_at, shz_at, if_pos hz, if_pos (by omega)]
    · obtain ⟨zz, s1, s2, s3, s4, s5, s6, s7⟩ := h1
      refine ⟨zz, s1, s2, s3, s4, s5, s6, fun zi hz => ?_⟩
      show zh.2.1 44 zi = shz (zh.2.1 75) 0 64 (64 * 1 + zi)
      rw [shz_at, if_neg (by omega)]
      exact s7 zi hz
    · obtain ⟨zz, s1, s2, s3, s4, s5, s6, s7⟩ := h2
      refine ⟨zz, s1, s2, s3, s4, s5, s6, fun zi hz => ?_⟩
      show zh.2.1 46 zi = shz (zh.2.1 75) 0 64 (64 * 2 + zi)
      rw [shz_at, if_neg (by omega)]
      exact s7 zi hz
    · obtain ⟨zz, s1, s2, s3, s4, s5, s6, s7⟩ := h3
      refine ⟨zz, s1, s2, s3, s4, s5, s6, fun zi hz => ?_⟩
      show zh.2.1 48 zi = shz (zh.2.1 75) 0 64 (64 * 3 + zi)
      rw [shz_at, if_neg (by omega)]
      exact s7 zi hz
  · rw [if_neg zc, if_neg zc] at c1
    have c2 := cn_X11_sheet E zh 0 zv zl zw
    rw [if_neg (fun z => zc z.2), if_neg (fun z => zc z.2)] at c2
    exact StI_mk c1 zw c2 rfl (InV_s hi)
theorem st_sheet_1 (E : ME) {zn : Nat} {zh : AH} (hi : InV zn zh) (zv zl : Int32) : StI E zn mX10_sheet mX11_sheet 2 1 [.int 1, .int zv, .int zl] zh := by
  obtain ⟨zw, zT, zS, zF, zB, ⟨h0, h1, h2, h3⟩, zX⟩ := id hi
  have c1 := cn_X10_sheet_1 E zh zv zl zw
  have zk : (0 : Int32) ≤ 1 ∧ (1 : Int32) ≤ 3 := by decide
  by_cases zc : (0 ≤ zv ∧ zv ≤ 2) ∧ zl ≤ 64
  · have zkc : ((0 : Int32) ≤ 1 ∧ (1 : Int32) ≤ 3) ∧ (0 ≤ zv ∧ zv ≤ 2) ∧ zl ≤ 64 := ⟨zk, zc⟩
    by_cases z0 : zl < 0
    · rw [if_pos zc, if_pos zc, if_pos z0, if_pos z0] at c1
      have c2 := cn_X11_sheet E zh 1 zv zl zw
      rw [if_pos zkc, if_pos zkc, if_pos z0, if_pos z0] at c2
      exact StI_mk c1 zw c2 rfl (InV_s hi)
    rw [if_pos zc, if_pos zc, if_neg z0, if_neg z0] at c1
    have c2 := cn_X11_sheet E (sI (sI zh 44 (flI 0 (zh.2.1 44) 64)) 43 (upd (upd (upd (zh.2.1 43) 1 1) 2 zv) 3 zl)) 1 zv zl zw
    rw [if_pos zkc, if_pos zkc, if_neg z0, if_neg z0, show (1 : Int32).toNatClampNeg = 1 from rfl] at c2
    obtain ⟨y1, y2⟩ := cl_le (zx := zl) (za := 64) ⟨(i_lt2 _ _).mp z0, zc.2⟩ (by decide)
    have y3 : ¬ zv = -4 := fun z => by rw [z] at zc; exact absurd zc.1.1 (by decide)
    refine StI_mk c1 zw c2 rfl ⟨zw, IvT_c zT ⟨rfl, rfl⟩ ⟨rfl, rfl⟩, IvS_c zS ⟨fun zk y1 y2 y3 => ?_, rfl, rfl, rfl, rfl⟩ ⟨rfl, rfl, rfl, fun zk y1 y2 => ?_⟩, IvF_c zF ⟨rfl, rfl, rfl, rfl, rfl, rfl⟩ ⟨rfl, rfl, rfl⟩, IvB_c zB ⟨rfl, rfl⟩ ⟨rfl, rfl⟩, ⟨?_, ⟨zl.toNatClampNeg, y1, y2, y2, Or.inr rfl, rfl, y3, fun zi hz => ?_⟩, ?_, ?_⟩, IvX_c zX ⟨rfl, rfl⟩ ⟨rfl, rfl, rfl, rfl⟩⟩
    · rw [sI_ne _ _ (by omega), sI_ne _ _ (by omega), sI_ne _ _ (by omega), sI_ne _ _ (by omega), sI_ne _ _ (by omega)]
    · rw [sI_ne _ _ (by omega), sI_ne _ _ (by omega), sI_ne _ _ (by omega), sI_ne _ _ (by omega), sI_ne _ _ (by omega)]
    · obtain ⟨zz, s1, s2, s3, s4, s5, s6, s7⟩ := h0
      refine ⟨zz, s1, s2, s3, s4, s5, s6, fun zi hz => ?_⟩
      show zh.2.1 42 zi = shz (zh.2.1 75) 1 64 (64 * 0 + zi)
      rw [shz_at, if_neg (by omega)]
      exact s7 zi hz
    · show flI 0 (zh.2.1 44) 64 zi = shz (zh.2.1 75) 1 64 (64 * 1 + zi)
      rw [flI_at, shz_at, if_pos hz, if_pos (by omega)]
    · obtain ⟨zz, s1, s2, s3, s4, s5, s6, s7⟩ := h2
      refine ⟨zz, s1, s2, s3, s4, s5, s6, fun zi hz => ?_⟩
      show zh.2.1 46 zi = shz (zh.2.1 75) 1 64 (64 * 2 + zi)
      rw [shz_at, if_neg (by omega)]
      exact s7 zi hz
    · obtain ⟨zz, s1, s2, s3, s4, s5, s6, s7⟩ := h3
      refine ⟨zz, s1, s2, s3, s4, s5, s6, fun zi hz => ?_⟩
      show zh.2.1 48 zi = shz (zh.2.1 75) 1 64 (64 * 3 + zi)
      rw [shz_at, if_neg (by omega)]
      exact s7 zi hz
  · rw [if_neg zc, if_neg zc] at c1
    have c2 := cn_X11_sheet E zh 1 zv zl zw
    rw [if_neg (fun z => zc z.2), if_neg (fun z => zc z.2)] at c2
    exact StI_mk c1 zw c2 rfl (InV_s hi)
theorem st_sheet_2 (E : ME) {zn : Nat} {zh : AH} (hi : InV zn zh) (zv zl : Int32) : StI E zn mX10_sheet mX11_sheet 2 1 [.int 2, .int zv, .int zl] zh := by
  obtain ⟨zw, zT, zS, zF, zB, ⟨h0, h1, h2, h3⟩, zX⟩ := id hi
  have c1 := cn_X10_sheet_2 E zh zv zl zw
  have zk : (0 : Int32) ≤ 2 ∧ (2 : Int32) ≤ 3 := by decide
  by_cases zc : (0 ≤ zv ∧ zv ≤ 2) ∧ zl ≤ 64
  · have zkc : ((0 : Int32) ≤ 2 ∧ (2 : Int32) ≤ 3) ∧ (0 ≤ zv ∧ zv ≤ 2) ∧ zl ≤ 64 := ⟨zk, zc⟩
    by_cases z0 : zl < 0
    · rw [if_pos zc, if_pos zc, if_pos z0, if_pos z0] at c1
      have c2 := cn_X11_sheet E zh 2 zv zl zw
      rw [if_pos zkc, if_pos zkc, if_pos z0, if_pos z0] at c2
      exact StI_mk c1 zw c2 rfl (InV_s hi)
    rw [if_pos zc, if_pos zc, if_neg z0, if_neg z0] at c1
    have c2 := cn_X11_sheet E (sI (sI zh 46 (flI 0 (zh.2.1 46) 64)) 45 (upd (upd (upd (zh.2.1 45) 1 1) 2 zv) 3 zl)) 2 zv zl zw
    rw [if_pos zkc, if_pos zkc, if_neg z0, if_neg z0, show (2 : Int32).toNatClampNeg = 2 from rfl] at c2
    obtain ⟨y1, y2⟩ := cl_le (zx := zl) (za := 64) ⟨(i_lt2 _ _).mp z0, zc.2⟩ (by decide)
    have y3 : ¬ zv = -4 := fun z => by rw [z] at zc; exact absurd zc.1.1 (by decide)
    refine StI_mk c1 zw c2 rfl ⟨zw, IvT_c zT ⟨rfl, rfl⟩ ⟨rfl, rfl⟩, IvS_c zS ⟨fun zk y1 y2 y3 => ?_, rfl, rfl, rfl, rfl⟩ ⟨rfl, rfl, rfl, fun zk y1 y2 => ?_⟩, IvF_c zF ⟨rfl, rfl, rfl, rfl, rfl, rfl⟩ ⟨rfl, rfl, rfl⟩, IvB_c zB ⟨rfl, rfl⟩ ⟨rfl, rfl⟩, ⟨?_, ?_, ⟨zl.toNatClampNeg, y1, y2, y2, Or.inr rfl, rfl, y3, fun zi hz => ?_⟩, ?_⟩, IvX_c zX ⟨rfl, rfl⟩ ⟨rfl, rfl, rfl, rfl⟩⟩
    · rw [sI_ne _ _ (by omega), sI_ne _ _ (by omega), sI_ne _ _ (by omega), sI_ne _ _ (by omega), sI_ne _ _ (by omega)]
    · rw [sI_ne _ _ (by omega), sI_ne _ _ (by omega), sI_ne _ _ (by omega), sI_ne _ _ (by omega), sI_ne _ _ (by omega)]
    · obtain ⟨zz, s1, s2, s3, s4, s5, s6, s7⟩ := h0
      refine ⟨zz, s1, s2, s3, s4, s5, s6, fun zi hz => ?_⟩
      show zh.2.1 42 zi = shz (zh.2.1 75) 2 64 (64 * 0 + zi)
      rw [shz_at, if_neg (by omega)]
      exact s7 zi hz
    · obtain ⟨zz, s1, s2, s3, s4, s5, s6, s7⟩ := h1
      refine ⟨zz, s1, s2, s3, s4, s5, s6, fun zi hz => ?_⟩
      show zh.2.1 44 zi = shz (zh.2.1 75) 2 64 (64 * 1 + zi)
      rw [shz_at, if_neg (by omega)]
      exact s7 zi hz
    · show flI 0 (zh.2.1 46) 64 zi = shz (zh.2.1 75) 2 64 (64 * 2 + zi)
      rw [flI_at, shz_at, if_pos hz, if_pos (by omega)]
    · obtain ⟨zz, s1, s2, s3, s4, s5, s6, s7⟩ := h3
      refine ⟨zz, s1, s2, s3, s4, s5, s6, fun zi hz => ?_⟩
      show zh.2.1 48 zi = shz (zh.2.1 75) 2 64 (64 * 3 + zi)
      rw [shz_at, if_neg (by omega)]
      exact s7 zi hz
  · rw [if_neg zc, if_neg zc] at c1
    have c2 := cn_X11_sheet E zh 2 zv zl zw
    rw [if_neg (fun z => zc z.2), if_neg (fun z => zc z.2)] at c2
    exact StI_mk c1 zw c2 rfl (InV_s hi)
theorem st_sheet_3 (E : ME) {zn : Nat} {zh : AH} (hi : InV zn zh) (zv zl : Int32) : StI E zn mX10_sheet mX11_sheet 2 1 [.int 3, .int zv, .int zl] zh := by
  obtain ⟨zw, zT, zS, zF, zB, ⟨h0, h1, h2, h3⟩, zX⟩ := id hi
  have c1 := cn_X10_sheet_3 E zh zv zl zw
  have zk : (0 : Int32) ≤ 3 ∧ (3 : Int32) ≤ 3 := by decide
  by_cases zc : (0 ≤ zv ∧ zv ≤ 2) ∧ zl ≤ 64
  · have zkc : ((0 : Int32) ≤ 3 ∧ (3 : Int32) ≤ 3) ∧ (0 ≤ zv ∧ zv ≤ 2) ∧ zl ≤ 64 := ⟨zk, zc⟩
    by_cases z0 : zl < 0
    · rw [if_pos zc, if_pos zc, if_pos z0, if_pos z0] at c1
      have c2 := cn_X11_sheet E zh 3 zv zl zw
      rw [if_pos zkc, if_pos zkc, if_pos z0, if_pos z0] at c2
      exact StI_mk c1 zw c2 rfl (InV_s hi)
    rw [if_pos zc, if_pos zc, if_neg z0, if_neg z0] at c1
    have c2 := cn_X11_sheet E (sI (sI zh 48 (flI 0 (zh.2.1 48) 64)) 47 (upd (upd (upd (zh.2.1 47) 1 1) 2 zv) 3 zl)) 3 zv zl zw
    rw [if_pos zkc, if_pos zkc, if_neg z0, if_neg z0, show (3 : Int32).toNatClampNeg = 3 from rfl] at c2
    obtain ⟨y1, y2⟩ := cl_le (zx := zl) (za := 64) ⟨(i_lt2 _ _).mp z0, zc.2⟩ (by decide)
    have y3 : ¬ zv = -4 := fun z => by rw [z] at zc; exact absurd zc.1.1 (by decide)
    refine StI_mk c1 zw c2 rfl ⟨zw, IvT_c zT ⟨rfl, rfl⟩ ⟨rfl, rfl⟩, IvS_c zS ⟨fun zk y1 y2 y3 => ?_, rfl, rfl, rfl, rfl⟩ ⟨rfl, rfl, rfl, fun zk y1 y2 => ?_⟩, IvF_c zF ⟨rfl, rfl, rfl, rfl, rfl, rfl⟩ ⟨rfl, rfl, rfl⟩, IvB_c zB ⟨rfl, rfl⟩ ⟨rfl, rfl⟩, ⟨?_, ?_, ?_, ⟨zl.toNatClampNeg, y1, y2, y2, Or.inr rfl, rfl, y3, fun zi hz => ?_⟩⟩, IvX_c zX ⟨rfl, rfl⟩ ⟨rfl, rfl, rfl, rfl⟩⟩
    · rw [sI_ne _ _ (by omega), sI_ne _ _ (by omega), sI_ne _ _ (by omega), sI_ne _ _ (by omega), sI_ne _ _ (by omega)]
    · rw [sI_ne _ _ (by omega), sI_ne _ _ (by omega), sI_ne _ _ (by omega), sI_ne _ _ (by omega), sI_ne _ _ (by omega)]
    · obtain ⟨zz, s1, s2, s3, s4, s5, s6, s7⟩ := h0
      refine ⟨zz, s1, s2, s3, s4, s5, s6, fun zi hz => ?_⟩
      show zh.2.1 42 zi = shz (zh.2.1 75) 3 64 (64 * 0 + zi)
      rw [shz_at, if_neg (by omega)]
      exact s7 zi hz
    · obtain ⟨zz, s1, s2, s3, s4, s5, s6, s7⟩ := h1
      refine ⟨zz, s1, s2, s3, s4, s5, s6, fun zi hz => ?_⟩
      show zh.2.1 44 zi = shz (zh.2.1 75) 3 64 (64 * 1 + zi)
      rw [shz_at, if_neg (by omega)]
      exact s7 zi hz
    · obtain ⟨zz, s1, s2, s3, s4, s5, s6, s7⟩ := h2
      refine ⟨zz, s1, s2, s3, s4, s5, s6, fun zi hz => ?_⟩
      show zh.2.1 46 zi = shz (zh.2.1 75) 3 64 (64 * 2 + zi)
      rw [shz_at, if_neg (by omega)]
      exact s7 zi hz
    · show flI 0 (zh.2.1 48) 64 zi = shz (zh.2.1 75) 3 64 (64 * 3 + zi)
      rw [flI_at, shz_at, if_pos hz, if_pos (by omega)]
  · rw [if_neg zc, if_neg zc] at c1
    have c2 := cn_X11_sheet E zh 3 zv zl zw
    rw [if_neg (fun z => zc z.2), if_neg (fun z => zc z.2)] at c2
    exact StI_mk c1 zw c2 rfl (InV_s hi)
theorem st_sheet (E : ME) {zn : Nat} {zh : AH} (hi : InV zn zh) (zk zv zl : Int32) : StI E zn mX10_sheet mX11_sheet 2 1 [.int zk, .int zv, .int zl] zh := by
  by_cases zc : 0 ≤ zk ∧ zk ≤ 3
  · rcases v_3.mp zc with rfl | rfl | rfl | rfl
    · exact st_sheet_0 E hi zv zl
    · exact st_sheet_1 E hi zv zl
    · exact st_sheet_2 E hi zv zl
    · exact st_sheet_3 E hi zv zl
  · have c2 := cn_X11_sheet E zh zk zv zl hi.1
    rw [if_neg (fun z => zc z.1), if_neg (fun z => zc z.1)] at c2
    exact StI_mk (cn_X10_sheetB E zh zk zv zl hi.1 zc) hi.1 c2 rfl (InV_s hi)
theorem st_write_0 (E : ME) {zn : Nat} {zh : AH} (hi : InV zn zh) (ze zv : Int32) : StI E zn mX10_write mX11_write 3 1 [.int 0, .int ze, .int zv] zh := by
  obtain ⟨zw, zT, zS, zF, zB, ⟨h0, h1, h2, h3⟩, zX⟩ := id hi
  have zG : ∀ zj : Nat, zj < 4 → ∃ zl : Nat, zl ≤ 64 ∧ zh.2.1 74 zj = nI zl := by
    intro zj hj
    rcases (by omega : zj = 0 ∨ zj = 1 ∨ zj = 2 ∨ zj = 3) with rfl | rfl | rfl | rfl
    · obtain ⟨zu, u1, u2, -⟩ := h0; exact ⟨zu, u1, u2⟩
    · obtain ⟨zu, u1, u2, -⟩ := h1; exact ⟨zu, u1, u2⟩
    · obtain ⟨zu, u1, u2, -⟩ := h2; exact ⟨zu, u1, u2⟩
    · obtain ⟨zu, u1, u2, -⟩ := h3; exact ⟨zu, u1, u2⟩
  have zk : (0 : Int32) ≤ 0 ∧ (0 : Int32) ≤ 3 := by decide
  obtain ⟨zz, s1, s2, s3, s4, s5, s6, s7⟩ := id h0
  have c1 := cn_X10_write_0 E zh ze zv zz zw s3 s1
  have c0 := cn_X11_write E zh 0 ze zv zw zG
  rw [if_pos zk, show (0 : Int32).toNatClampNeg = 0 from rfl] at c0
  by_cases z0 : zh.2.1 41 1 = 0
  · have e1 : sfN (zh.2.1 41 1) (zh.2.1 41 3) ze = 1 := by unfold sfN; rw [if_pos z0]
    have e2 : zh.2.1 73 0 = -4 := by rw [s5, if_pos z0]
    rw [e1, if_neg (by decide), if_neg (by decide)] at c1
    rw [if_pos e2, if_neg (fun z => z.2.1 e2)] at c0
    exact StI_mk c1 zw c0 (by decide) (InV_s hi)
  · have e2 : ¬ zh.2.1 73 0 = -4 := by rw [s5, if_neg z0]; exact s6
    rw [s2] at c0
    by_cases z1 : 0 ≤ ze ∧ ze ≤ nI zz - 1
    · have e1 : sfN (zh.2.1 41 1) (zh.2.1 41 3) ze = 0 := by unfold sfN; rw [if_neg z0, s3, if_pos z1]
      rw [e1, if_pos rfl, if_pos rfl] at c1
      have c2 := cn_X11_write E (sI zh 42 (upd (zh.2.1 42) ze.toNatClampNeg (lnC (zh.2.1 41 2) zv))) 0 ze zv zw zG
      have e3 : (sI zh 42 (upd (zh.2.1 42) ze.toNatClampNeg (lnC (zh.2.1 41 2) zv))).2.1 74 0 = nI zz := s2
      have e4 : ¬ (sI zh 42 (upd (zh.2.1 42) ze.toNatClampNeg (lnC (zh.2.1 41 2) zv))).2.1 73 0 = -4 := e2
      rw [if_pos zk, show (0 : Int32).toNatClampNeg = 0 from rfl, e3, if_neg e4, if_pos z1, if_pos ⟨zk, e4, z1⟩] at c2
      have z2 : ze.toNatClampNeg < 64 := by
        obtain ⟨zi, y1, y2⟩ := th_nat z1 (by omega)
        rw [y2, nI_clamp (by omega)]
        omega
      refine StI_mk c1 zw c2 rfl ⟨zw, IvT_c zT ⟨rfl, rfl⟩ ⟨rfl, rfl⟩, IvS_c zS ⟨fun zk y1 y2 y3 => ?_, rfl, rfl, rfl, rfl⟩ ⟨rfl, rfl, rfl, fun zk y1 y2 => ?_⟩, IvF_c zF ⟨rfl, rfl, rfl, rfl, rfl, rfl⟩ ⟨rfl, rfl, rfl⟩, IvB_c zB ⟨rfl, rfl⟩ ⟨rfl, rfl⟩, ⟨⟨zz, s1, s2, s3, s4, s5, s6, fun zi hz => ?_⟩, ?_, ?_, ?_⟩, IvX_c zX ⟨rfl, rfl⟩ ⟨rfl, rfl, rfl, rfl⟩⟩
      · rw [sI_ne _ _ (by omega), sI_ne _ _ (by omega)]
      · rw [sI_ne _ _ (by omega), sI_ne _ _ (by omega)]
      · show upd (zh.2.1 42) ze.toNatClampNeg (lnC (zh.2.1 41 2) zv) zi = upd (zh.2.1 75) (64 * 0 + ze.toNatClampNeg) (lnI (zh.2.1 73 0) zv) (64 * 0 + zi)
        unfold upd
        by_cases y : zi = ze.toNatClampNeg
        · rw [if_pos y, if_pos (by omega), ln_eq, s5, if_neg z0]
        · rw [if_neg y, if_neg (by omega)]
          exact s7 zi hz
      · obtain ⟨zu, u1, u2, u3, u4, u5, u6, u7⟩ := h1
        refine ⟨zu, u1, u2, u3, u4, u5, u6, fun zi hz => ?_⟩
        show zh.2.1 44 zi = upd (zh.2.1 75) (64 * 0 + ze.toNatClampNeg) _ (64 * 1 + zi)
        unfold upd
        rw [if_neg (by omega)]
        exact u7 zi hz
      · obtain ⟨zu, u1, u2, u3, u4, u5, u6, u7⟩ := h2
        refine ⟨zu, u1, u2, u3, u4, u5, u6, fun zi hz => ?_⟩
        show zh.2.1 46 zi = upd (zh.2.1 75) (64 * 0 + ze.toNatClampNeg) _ (64 * 2 + zi)
        unfold upd
        rw [if_neg (by omega)]
        exact u7 zi hz
      · obtain ⟨zu, u1, u2, u3, u4, u5, u6, u7⟩ := h3
        refine ⟨zu, u1, u2, u3, u4, u5, u6, fun zi hz => ?_⟩
        show zh.2.1 48 zi = upd (zh.2.1 75) (64 * 0 + ze.toNatClampNeg) _ (64 * 3 + zi)
        unfold upd
        rw [if_neg (by omega)]
        exact u7 zi hz
    · have e1 : sfN (zh.2.1 41 1) (zh.2.1 41 3) ze = 2 := by unfold sfN; rw [if_neg z0, s3, if_neg z1]
      rw [e1, if_neg (by decide), if_neg (by decide)] at c1
      rw [if_neg e2, if_neg z1, if_neg (fun z => z1 z.2.2)] at c0
      exact StI_mk c1 zw c0 (by decide) (InV_s hi)
theorem st_write_1 (E : ME) {zn : Nat} {zh : AH} (hi : InV zn zh) (ze zv : Int32) : StI E zn mX10_write mX11_write 3 1 [.int 1, .int ze, .int zv] zh := by
  obtain ⟨zw, zT, zS, zF, zB, ⟨h0, h1, h2, h3⟩, zX⟩ := id hi
  have zG : ∀ zj : Nat, zj < 4 → ∃ zl : Nat, zl ≤ 64 ∧ zh.2.1 74 zj = nI zl := by
    intro zj hj
    rcases (by omega : zj = 0 ∨ zj = 1 ∨ zj = 2 ∨ zj = 3) with rfl | rfl | rfl | rfl
    · obtain ⟨zu, u1, u2, -⟩ := h0; exact ⟨zu, u1, u2⟩
    · obtain ⟨zu, u1, u2, -⟩ := h1; exact ⟨zu, u1, u2⟩
    · obtain ⟨zu, u1, u2, -⟩ := h2; exact ⟨zu, u1, u2⟩
    · obtain ⟨zu, u1, u2, -⟩ := h3; exact ⟨zu, u1, u2⟩
  have zk : (0 : Int32) ≤ 1 ∧ (1 : Int32) ≤ 3 := by decide
  obtain ⟨zz, s1, s2, s3, s4, s5, s6, s7⟩ := id h1
  have c1 := cn_X10_write_1 E zh ze zv zz zw s3 s1
  have c0 := cn_X11_write E zh 1 ze zv zw zG
  rw [if_pos zk, show (1 : Int32).toNatClampNeg = 1 from rfl] at c0
  by_cases z0 : zh.2.1 43 1 = 0
  · have e1 : sfN (zh.2.1 43 1) (zh.2.1 43 3) ze = 1 := by unfold sfN; rw [if_pos z0]
    have e2 : zh.2.1 73 1 = -4 := by rw [s5, if_pos z0]
    rw [e1, if_neg (by decide), if_neg (by decide)] at c1
    rw [if_pos e2, if_neg (fun z => z.2.1 e2)] at c0
    exact StI_mk c1 zw c0 (by decide) (InV_s hi)
  · have e2 : ¬ zh.2.1 73 1 = -4 := by rw [s5, if_neg z0]; exact s6
    rw [s2] at c0
    by_cases z1 : 0 ≤ ze ∧ ze ≤ nI zz - 1
    · have e1 : sfN (zh.2.1 43 1) (zh.2.1 43 3) ze = 0 := by unfold sfN; rw [if_neg z0, s3, if_pos z1]
      rw [e1, if_pos rfl, if_pos rfl] at c1
      have c2 := cn_X11_write E (sI zh 44 (upd (zh.2.1 44) ze.toNatClampNeg (lnC (zh.2.1 43 2) zv))) 1 ze zv zw zG
      have e3 : (sI zh 44 (upd (zh.2.1 44) ze.toNatClampNeg (lnC (zh.2.1 43 2) zv))).2.1 74 1 = nI zz := s2
      have e4 : ¬ (sI zh 44 (upd (zh.2.1 44) ze.toNatClampNeg (lnC (zh.2.1 43 2) zv))).2.1 73 1 = -4 := e2
      rw [if_pos zk, show (1 : Int32).toNatClampNeg = 1 from rfl, e3, if_neg e4, if_pos z1, if_pos ⟨zk, e4, z1⟩] at c2
      have z2 : ze.toNatClampNeg < 64 := by
        obtain ⟨zi, y1, y2⟩ := th_nat z1 (by omega)
        rw [y2, nI_clamp (by omega)]
        omega
      refine StI_mk c1 zw c2 rfl ⟨zw, IvT_c zT ⟨rfl, rfl⟩ ⟨rfl, rfl⟩, IvS_c zS ⟨fun zk y1 y2 y3 => ?_, rfl, rfl, rfl, rfl⟩ ⟨rfl, rfl, rfl, fun zk y1 y2 => ?_⟩, IvF_c zF ⟨rfl, rfl, rfl, rfl, rfl, rfl⟩ ⟨rfl, rfl, rfl⟩, IvB_c zB ⟨rfl, rfl⟩ ⟨rfl, rfl⟩, ⟨?_, ⟨zz, s1, s2, s3, s4, s5, s6, fun zi hz => ?_⟩, ?_, ?_⟩, IvX_c zX ⟨rfl, rfl⟩ ⟨rfl, rfl, rfl, rfl⟩⟩
      · rw [sI_ne _ _ (by omega), sI_ne _ _ (by omega)]
      · rw [sI_ne _ _ (by omega), sI_ne _ _ (by omega)]
      · obtain ⟨zu, u1, u2, u3, u4, u5, u6, u7⟩ := h0
        refine ⟨zu, u1, u2, u3, u4, u5, u6, fun zi hz => ?_⟩
        show zh.2.1 42 zi = upd (zh.2.1 75) (64 * 1 + ze.toNatClampNeg) _ (64 * 0 + zi)
        unfold upd
        rw [if_neg (by omega)]
        exact u7 zi hz
      · show upd (zh.2.1 44) ze.toNatClampNeg (lnC (zh.2.1 43 2) zv) zi = upd (zh.2.1 75) (64 * 1 + ze.toNatClampNeg) (lnI (zh.2.1 73 1) zv) (64 * 1 + zi)
        unfold upd
        by_cases y : zi = ze.toNatClampNeg
        · rw [if_pos y, if_pos (by omega), ln_eq, s5, if_neg z0]
        · rw [if_neg y, if_neg (by omega)]
          exact s7 zi hz
      · obtain ⟨zu, u1, u2, u3, u4, u5, u6, u7⟩ := h2
        refine ⟨zu, u1, u2, u3, u4, u5, u6, fun zi hz => ?_⟩
        show zh.2.1 46 zi = upd (zh.2.1 75) (64 * 1 + ze.toNatClampNeg) _ (64 * 2 + zi)
        unfold upd
        rw [if_neg (by omega)]
        exact u7 zi hz
      · obtain ⟨zu, u1, u2, u3, u4, u5, u6, u7⟩ := h3
        refine ⟨zu, u1, u2, u3, u4, u5, u6, fun zi hz => ?_⟩
        show zh.2.1 48 zi = upd (zh.2.1 75) (64 * 1 + ze.toNatClampNeg) _ (64 * 3 + zi)
        unfold upd
        rw [if_neg (by omega)]
        exact u7 zi hz
    · have e1 : sfN (zh.2.1 43 1) (zh.2.1 43 3) ze = 2 := by unfold sfN; rw [if_neg z0, s3, if_neg z1]
      rw [e1, if_neg (by decide), if_neg (by decide)] at c1
      rw [if_neg e2, if_neg z1, if_neg (fun z => z1 z.2.2)] at c0
      exact StI_mk c1 zw c0 (by decide) (InV_s hi)
theorem st_write_2 (E : ME) {zn : Nat} {zh : AH} (hi : InV zn zh) (ze zv : Int32) : StI E zn mX10_write mX11_write 3 1 [.int 2, .int ze, .int zv] zh := by
  obtain ⟨zw, zT, zS, zF, zB, ⟨h0, h1, h2, h3⟩, zX⟩ := id hi
  have zG : ∀ zj : Nat, zj < 4 → ∃ zl : Nat, zl ≤ 64 ∧ zh.2.1 74 zj = nI zl := by
    intro zj hj
    rcases (by omega : zj = 0 ∨ zj = 1 ∨ zj = 2 ∨ zj = 3) with rfl | rfl | rfl | rfl
    · obtain ⟨zu, u1, u2, -⟩ := h0; exact ⟨zu, u1, u2⟩
    · obtain ⟨zu, u1, u2, -⟩ := h1; exact ⟨zu, u1, u2⟩
    · obtain ⟨zu, u1, u2, -⟩ := h2; exact ⟨zu, u1, u2⟩
    · obtain ⟨zu, u1, u2, -⟩ := h3; exact ⟨zu, u1, u2⟩
  have zk : (0 : Int32) ≤ 2 ∧ (2 : Int32) ≤ 3 := by decide
  obtain ⟨zz, s1, s2, s3, s4, s5, s6, s7⟩ := id h2
  have c1 := cn_X10_write_2 E zh ze zv zz zw s3 s1
  have c0 := cn_X11_write E zh 2 ze zv zw zG
  rw [if_pos zk, show (2 : Int32).toNatClampNeg = 2 from rfl] at c0
  by_cases z0 : zh.2.1 45 1 = 0
  · have e1 : sfN (zh.2.1 45 1) (zh.2.1 45 3) ze = 1 := by unfold sfN; rw [if_pos z0]
    have e2 : zh.2.1 73 2 = -4 := by rw [s5, if_pos z0]
    rw [e1, if_neg (by decide), if_neg (by decide)] at c1
    rw [if_pos e2, if_neg (fun z => z.2.1 e2)] at c0
    exact StI_mk c1 zw c0 (by decide) (InV_s hi)
  · have e2 : ¬ zh.2.1 73 2 = -4 := by rw [s5, if_neg z0]; exact s6
    rw [s2] at c0
    by_cases z1 : 0 ≤ ze ∧ ze ≤ nI zz - 1
    · have e1 : sfN (zh.2.1 45 1) (zh.2.1 45 3) ze = 0 := by unfold sfN; rw [if_neg z0, s3, if_pos z1]
      rw [e1, if_pos rfl, if_pos rfl] at c1
      have c2 := cn_X11_write E (sI zh 46 (upd (zh.2.1 46) ze.toNatClampNeg (lnC (zh.2.1 45 2) zv))) 2 ze zv zw zG
      have e3 : (sI zh 46 (upd (zh.2.1 46) ze.toNatClampNeg (lnC (zh.2.1 45 2) zv))).2.1 74 2 = nI zz := s2
      have e4 : ¬ (sI zh 46 (upd (zh.2.1 46) ze.toNatClampNeg (lnC (zh.2.1 45 2) zv))).2.1 73 2 = -4 := e2
      rw [if_pos zk, show (2 : Int32).toNatClampNeg = 2 from rfl, e3, if_neg e4, if_pos z1, if_pos ⟨zk, e4, z1⟩] at c2
      have z2 : ze.toNatClampNeg < 64 := by
        obtain ⟨zi, y1, y2⟩ := th_nat z1 (by omega)
        rw [y2, nI_clamp (by omega)]
        omega
      refine StI_mk c1 zw c2 rfl ⟨zw, IvT_c zT ⟨rfl, rfl⟩ ⟨rfl, rfl⟩, IvS_c zS ⟨fun zk y1 y2 y3 => ?_, rfl, rfl, rfl, rfl⟩ ⟨rfl, rfl, rfl, fun zk y1 y2 => ?_⟩, IvF_c zF ⟨rfl, rfl, rfl, rfl, rfl, rfl⟩ ⟨rfl, rfl, rfl⟩, IvB_c zB ⟨rfl, rfl⟩ ⟨rfl, rfl⟩, ⟨?_, ?_, ⟨zz, s1, s2, s3, s4, s5, s6, fun zi hz => ?_⟩, ?_⟩, IvX_c zX ⟨rfl, rfl⟩ ⟨rfl, rfl, rfl, rfl⟩⟩
      · rw [sI_ne _ _ (by omega), sI_ne _ _ (by omega)]
      · rw [sI_ne _ _ (by omega), sI_ne _ _ (by omega)]
      · obtain ⟨zu, u1, u2, u3, u4, u5, u6, u7⟩ := h0
        refine ⟨zu, u1, u2, u3, u4, u5, u6, fun zi hz => ?_⟩
        show zh.2.1 42 zi = upd (zh.2.1 75) (64 * 2 + ze.toNatClampNeg) _ (64 * 0 + zi)
        unfold upd
        rw [if_neg (by omega)]
        exact u7 zi hz
      · obtain ⟨zu, u1, u2, u3, u4, u5, u6, u7⟩ := h1
        refine ⟨zu, u1, u2, u3, u4, u5, u6, fun zi hz => ?_⟩
        show zh.2.1 44 zi = upd (zh.2.1 75) (64 * 2 + ze.toNatClampNeg) _ (64 * 1 + zi)
        unfold upd
        rw [if_neg (by omega)]
        exact u7 zi hz
      · show upd (zh.2.1 46) ze.toNatClampNeg (lnC (zh.2.1 45 2) zv) zi = upd (zh.2.1 75) (64 * 2 + ze.toNatClampNeg) (lnI (zh.2.1 73 2) zv) (64 * 2 + zi)
        unfold upd
        by_cases y : zi = ze.toNatClampNeg
        · rw [if_pos y, if_pos (by omega), ln_eq, s5, if_neg z0]
        · rw [if_neg y, if_neg (by omega)]
          exact s7 zi hz
      · obtain ⟨zu, u1, u2, u3, u4, u5, u6, u7⟩ := h3
        refine ⟨zu, u1, u2, u3, u4, u5, u6, fun zi hz => ?_⟩
        show zh.2.1 48 zi = upd (zh.2.1 75) (64 * 2 + ze.toNatClampNeg) _ (64 * 3 + zi)
        unfold upd
        rw [if_neg (by omega)]
        exact u7 zi hz
    · have e1 : sfN (zh.2.1 45 1) (zh.2.1 45 3) ze = 2 := by unfold sfN; rw [if_neg z0, s3, if_neg z1]
      rw [e1, if_neg (by decide), if_neg (by decide)] at c1
      rw [if_neg e2, if_neg z1, if_neg (fun z => z1 z.2.2)] at c0
      exact StI_mk c1 zw c0 (by decide) (InV_s hi)
theorem st_write_3 (E : ME) {zn : Nat} {zh : AH} (hi : InV zn zh) (ze zv : Int32) : StI E zn mX10_write mX11_write 3 1 [.int 3, .int ze, .int zv] zh := by
  obtain ⟨zw, zT, zS, zF, zB, ⟨h0, h1, h2, h3⟩, zX⟩ := id hi
  have zG : ∀ zj : Nat, zj < 4 → ∃ zl : Nat, zl ≤ 64 ∧ zh.2.1 74 zj = nI zl := by
    intro zj hj
    rcases (by omega : zj = 0 ∨ zj = 1 ∨ zj = 2 ∨ zj = 3) with rfl | rfl | rfl | rfl
    · obtain ⟨zu, u1, u2, -⟩ := h0; exact ⟨zu, u1, u2⟩
    · obtain ⟨zu, u1, u2, -⟩ := h1; exact ⟨zu, u1, u2⟩
    · obtain ⟨zu, u1, u2, -⟩ := h2; exact ⟨zu, u1, u2⟩
    · obtain ⟨zu, u1, u2, -⟩ := h3; exact ⟨zu, u1, u2⟩
  have zk : (0 : Int32) ≤ 3 ∧ (3 : Int32) ≤ 3 := by decide
  obtain ⟨zz, s1, s2, s3, s4, s5, s6, s7⟩ := id h3
  have c1 := cn_X10_write_3 E zh ze zv zz zw s3 s1
  have c0 := cn_X11_write E zh 3 ze zv zw zG
  rw [if_pos zk, show (3 : Int32).toNatClampNeg = 3 from rfl] at c0
  by_cases z0 : zh.2.1 47 1 = 0
  · have e1 : sfN (zh.2.1 47 1) (zh.2.1 47 3) ze = 1 := by unfold sfN; rw [if_pos z0]
    have e2 : zh.2.1 73 3 = -4 := by rw [s5, if_pos z0]
    rw [e1, if_neg (by decide), if_neg (by decide)] at c1
    rw [if_pos e2, if_neg (fun z => z.2.1 e2)] at c0
    exact StI_mk c1 zw c0 (by decide) (InV_s hi)
  · have e2 : ¬ zh.2.1 73 3 = -4 := by rw [s5, if_neg z0]; exact s6
    rw [s2] at c0
    by_cases z1 : 0 ≤ ze ∧ ze ≤ nI zz - 1
    · have e1 : sfN (zh.2.1 47 1) (zh.2.1 47 3) ze = 0 := by unfold sfN; rw [if_neg z0, s3, if_pos z1]
      rw [e1, if_pos rfl, if_pos rfl] at c1
      have c2 := cn_X11_write E (sI zh 48 (upd (zh.2.1 48) ze.toNatClampNeg (lnC (zh.2.1 47 2) zv))) 3 ze zv zw zG
      have e3 : (sI zh 48 (upd (zh.2.1 48) ze.toNatClampNeg (lnC (zh.2.1 47 2) zv))).2.1 74 3 = nI zz := s2
      have e4 : ¬ (sI zh 48 (upd (zh.2.1 48) ze.toNatClampNeg (lnC (zh.2.1 47 2) zv))).2.1 73 3 = -4 := e2
      rw [if_pos zk, show (3 : Int32).toNatClampNeg = 3 from rfl, e3, if_neg e4, if_pos z1, if_pos ⟨zk, e4, z1⟩] at c2
      have z2 : ze.toNatClampNeg < 64 := by
        obtain ⟨zi, y1, y2⟩ := th_nat z1 (by omega)
        rw [y2, nI_clamp (by omega)]
        omega
      refine StI_mk c1 zw c2 rfl ⟨zw, IvT_c zT ⟨rfl, rfl⟩ ⟨rfl, rfl⟩, IvS_c zS ⟨fun zk y1 y2 y3 => ?_, rfl, rfl, rfl, rfl⟩ ⟨rfl, rfl, rfl, fun zk y1 y2 => ?_⟩, IvF_c zF ⟨rfl, rfl, rfl, rfl, rfl, rfl⟩ ⟨rfl, rfl, rfl⟩, IvB_c zB ⟨rfl, rfl⟩ ⟨rfl, rfl⟩, ⟨?_, ?_, ?_, ⟨zz, s1, s2, s3, s4, s5, s6, fun zi hz => ?_⟩⟩, IvX_c zX ⟨rfl, rfl⟩ ⟨rfl, rfl, rfl, rfl⟩⟩
      · rw [sI_ne _ _ (by omega), sI_ne _ _ (by omega)]
      · rw [sI_ne _ _ (by omega), sI_ne _ _ (by omega)]
      · obtain ⟨zu, u1, u2, u3, u4, u5, u6, u7⟩ := h0
        refine ⟨zu, u1, u2, u3, u4, u5, u6, fun zi hz => ?_⟩
        show zh.2.1 42 zi = upd (zh.2.1 75) (64 * 3 + ze.toNatClampNeg) _ (64 * 0 + zi)
        unfold upd
        rw [if_neg (by omega)]
        exact u7 zi hz
      · obtain ⟨zu, u1, u2, u3, u4, u5, u6, u7⟩ := h1
        refine ⟨zu, u1, u2, u3, u4, u5, u6, fun zi hz => ?_⟩
        show zh.2.1 44 zi = upd (zh.2.1 75) (64 * 3 + ze.toNatClampNeg) _ (64 * 1 + zi)
        unfold upd
        rw [if_neg (by omega)]
        exact u7 zi hz
      · obtain ⟨zu, u1, u2, u3, u4, u5, u6, u7⟩ := h2
        refine ⟨zu, u1, u2, u3, u4, u5, u6, fun zi hz => ?_⟩
        show zh.2.1 46 zi = upd (zh.2.1 75) (64 * 3 + ze.toNatClampNeg) _ (64 * 2 + zi)
        unfold upd
        rw [if_neg (by omega)]
        exact u7 zi hz
      · show upd (zh.2.1 48) ze.toNatClampNeg (lnC (zh.2.1 47 2) zv) zi = upd (zh.2.1 75) (64 * 3 + ze.toNatClampNeg) (lnI (zh.2.1 73 3) zv) (64 * 3 + zi)
        unfold upd
        by_cases y : zi = ze.toNatClampNeg
        · rw [if_pos y, if_pos (by omega), ln_eq, s5, if_neg z0]
        · rw [if_neg y, if_neg (by omega)]
          exact s7 zi hz
    · have e1 : sfN (zh.2.1 47 1) (zh.2.1 47 3) ze = 2 := by unfold sfN; rw [if_neg z0, s3, if_neg z1]
      rw [e1, if_neg (by decide), if_neg (by decide)] at c1
      rw [if_neg e2, if_neg z1, if_neg (fun z => z1 z.2.2)] at c0
      exact StI_mk c1 zw c0 (by decide) (InV_s hi)
theorem st_write (E : ME) {zn : Nat} {zh : AH} (hi : InV zn zh) (zk ze zv : Int32) : ∃ zd zc, zd ≤ 7 ∧ zc ≤ 7 ∧ StI E zn mX10_write mX11_write zd zc [.int zk, .int ze, .int zv] zh := by
  by_cases zc : 0 ≤ zk ∧ zk ≤ 3
  · rcases v_3.mp zc with rfl | rfl | rfl | rfl
    · exact ⟨3, 1, by decide, by decide, st_write_0 E hi ze zv⟩
    · exact ⟨3, 1, by decide, by decide, st_write_1 E hi ze zv⟩
    · exact ⟨3, 1, by decide, by decide, st_write_2 E hi ze zv⟩
    · exact ⟨3, 1, by decide, by decide, st_write_3 E hi ze zv⟩
  · obtain ⟨zw, zT, zS, zF, zB, ⟨h0, h1, h2, h3⟩, zX⟩ := id hi
    have zG : ∀ zj : Nat, zj < 4 → ∃ zl : Nat, zl ≤ 64 ∧ zh.2.1 74 zj = nI zl := by
      intro zj hj
      rcases (by omega : zj = 0 ∨ zj = 1 ∨ zj = 2 ∨ zj = 3) with rfl | rfl | rfl | rfl
      · obtain ⟨zu, u1, u2, -⟩ := h0; exact ⟨zu, u1, u2⟩
      · obtain ⟨zu, u1, u2, -⟩ := h1; exact ⟨zu, u1, u2⟩
      · obtain ⟨zu, u1, u2, -⟩ := h2; exact ⟨zu, u1, u2⟩
      · obtain ⟨zu, u1, u2, -⟩ := h3; exact ⟨zu, u1, u2⟩
    have c2 := cn_X11_write E zh zk ze zv hi.1 zG
    rw [if_neg zc, if_neg (fun z => zc z.1)] at c2
    exact ⟨2, 1, by decide, by decide, StI_mk (cn_X10_writeB E zh zk ze zv hi.1 zc) hi.1 c2 rfl (InV_s hi)⟩
