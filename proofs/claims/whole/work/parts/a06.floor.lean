theorem FLz_f {zf zg : Nat → Int32} {zx : Int64} {zh : AH} (hq : ∀ zj, zj < 64 → zf zj = zg zj) (hF : FLz zf zx zh) : FLz zg zx zh := by
  obtain ⟨z1, z2, z3, z4, z5⟩ := hF
  refine ⟨fun zj hj => (z1 zj hj).trans (hq zj hj), fun zj hj => by rw [← hq zj hj]; exact z2 zj hj, fun zc hc zj hj => by rw [← hq zj hj]; exact z3 zc hc zj hj, fun zj hj => by rw [← hq zj hj]; exact z4 zj hj, z5⟩
theorem soH_cong {zf zg : Nat → Int32} (hq : ∀ zj, zj < 64 → zf zj = zg zj) {zp zt zk : Nat} (hp : zp < 256) (ht : zt < 256) (hk : zk < 4) (za : Int32) : ∀ zi, zi ≤ 2 → soH zf zp zt zk za zi = soH zg zp zt zk za zi
  | 0, _ => by rw [soH, soH]
  | zi + 1, h => by
    rw [soH, soH, soH_cong hq hp ht hk za zi (by omega), hq _ (paN_lt hp ht (show 2 * zi < 4 by omega) (show 4 * zk + 3 < 16 by omega)), hq _ (paN_lt hp ht (show 2 * zi + 1 < 4 by omega) (show 4 * zk < 16 by omega)), hq _ (paN_lt hp ht (show zi < 4 by omega) (show 12 + zk < 16 by omega)), hq _ (paN_lt hp ht (show 2 + zi < 4 by omega) (show zk < 16 by omega))]
theorem soK_cong {zf zg : Nat → Int32} (hq : ∀ zj, zj < 64 → zf zj = zg zj) {zp zt : Nat} (hp : zp < 256) (ht : zt < 256) : ∀ zk, zk ≤ 4 → soK zf zp zt zk = soK zg zp zt zk
  | 0, _ => by rw [soK, soK]
  | zk + 1, h => by
    rw [soK, soK, soK_cong hq hp ht zk (by omega), soH_cong hq hp ht (by omega) _ 2 (by omega)]
theorem tgT_cong {zg zk : Nat → Int32} {zp : Nat} {zs : Int32 × Int32 × Int32} : ∀ zt, (∀ zj, zj < zt → zg zj = zk zj) → tgT zg zp zs zt = tgT zk zp zs zt
  | 0, _ => by rw [tgT, tgT]
  | zt + 1, h => by
    rw [tgT, tgT, tgT_cong zt (fun zj hj => h zj (by omega)), h zt (by omega)]
theorem tgP_cong {zg zk : Nat → Nat → Int32} : ∀ zp, (∀ zj, zj < zp → ∀ zt, zt < 256 → zg zj zt = zk zj zt) → tgP zg zp = tgP zk zp
  | 0, _ => by rw [tgP, tgP]
  | zp + 1, h => by
    rw [tgP, tgP, tgP_cong zp (fun zj hj => h zj (by omega)), tgT_cong 256 (fun zt ht => h zp (by omega) zt ht)]
theorem PBw_f {zf zg : Nat → Int32} {za : AH} (hq : ∀ zj, zj < 64 → zf zj = zg zj) (zh : PBw zf za) : PBw zg za := by
  unfold PBw at zh ⊢
  rw [← tgP_cong 256 (fun zp hp zt ht => soK_cong hq hp ht 4 (by omega))]
  exact zh
theorem IvC_n {zn : Nat} {zf zg : Nat → Int32} {za zc : AH} (zh : IvC zn zf za) (hn : zn ≤ 512) (e36 : zc.2.1 36 = za.2.1 36) {zq : Nat} (hq : zq ≤ 384) (e7 : zc.2.1 25 7 = za.2.1 25 7 + nI zq) (h0 : zq = 0 → ∀ zj, zj < 64 → zg zj = zf zj) : IvC (zn + 1) zg zc := by
  obtain ⟨zx, y1, y2, y3, y4⟩ := zh
  rw [y2, nI_add] at e7
  refine ⟨zx + zq, by omega, e7, ?_, ?_⟩
  · rw [e36]
    rcases y3 with y3 | ⟨zd, y5, y6⟩
    · exact Or.inl y3
    · exact Or.inr ⟨zd, by omega, y6⟩
  · intro z
    rw [e36, e7] at z
    rcases y3 with y3 | ⟨zd, y5, y6⟩
    · rw [y3] at z
      have z2 := congrArg Int32.toInt z
      rw [nI_toInt (by omega)] at z2
      have z3 : (-1 : Int32).toInt = -1 := by decide
      omega
    · rw [y6] at z
      have z2 := (nI_eq (by omega) (by omega)).mp z
      have z3 : zq = 0 := by omega
      have z4 : zd = zx := by omega
      refine PBw_c e36 (PBw_f (fun zj hj => (h0 z3 zj hj).symm) (y4 ?_))
      rw [y6, y2, z4]
/-- one call has changed the floor of both -/
theorem flo_i {zn : Nat} {zh h1 h2 : AH} {zt : Int32} {zq : Nat} (hi : InV zn zh) (hn : zn ≤ 512)
    (f1 : h1.1 = zh.1) (f2 : h1.2.2.2 = zh.2.2.2) (f3 : ∀ zk, zk ≠ 0 → zk ≠ 25 → zk ≠ 26 → zk ≠ 29 → h1.2.1 zk = zh.2.1 zk) (f0 : h1.2.1 0 11 = zt) (f4 : ∀ zk, zk ≠ 25 → zk ≠ 27 → zk ≠ 33 → h1.2.2.1 zk = zh.2.2.1 zk)
    (g1 : h2.1 = h1.1) (g2 : h2.2.2.2 = h1.2.2.2) (g3 : ∀ zk, zk ≠ 49 → zk ≠ 69 → zk ≠ 70 → zk ≠ 71 → zk ≠ 72 → h2.2.1 zk = h1.2.1 zk) (g4 : ∀ zj, zj ≠ 38 → zj ≠ 39 → zj ≠ 40 → zj ≠ 41 → zj ≠ 48 → h2.2.1 49 zj = h1.2.1 49 zj) (g0 : h2.2.1 49 48 = zt) (g5 : ∀ zk, zk ≠ 49 → h2.2.2.1 zk = h1.2.2.1 zk)
    (q1 : FLz (h2.2.1 69) (h2.2.2.1 49 37) h1) (q2 : h1.2.1 25 6 = 0 ∨ h1.2.1 25 6 = 1) (q3 : h2.2.1 49 38 = h1.2.1 25 6) (q4 : ∀ zj, zj < 64 → lbt (h2.2.2.1 49 37) zj = true → ¬ h2.2.1 69 zj = -1)
    (c1 : zq ≤ 384) (c2 : h1.2.1 25 7 = zh.2.1 25 7 + nI zq) (c3 : zq = 0 → ∀ zj, zj < 64 → h2.2.1 69 zj = zh.2.1 69 zj) : InV (zn + 1) h2 := by
  have r1 : ∀ zk, zk ≠ 0 → zk ≠ 25 → zk ≠ 26 → zk ≠ 29 → zk ≠ 49 → zk ≠ 69 → zk ≠ 70 → zk ≠ 71 → zk ≠ 72 → h2.2.1 zk = zh.2.1 zk := fun zk a1 a2 a3 a4 a5 a6 a7 a8 a9 => (g3 zk a5 a6 a7 a8 a9).trans (f3 zk a1 a2 a3 a4)
  have r2 : ∀ zj, zj ≠ 38 → zj ≠ 39 → zj ≠ 40 → zj ≠ 41 → zj ≠ 48 → h2.2.1 49 zj = zh.2.1 49 zj := fun zj a1 a2 a3 a4 a5 => (g4 zj a1 a2 a3 a4 a5).trans (by rw [f3 49 (by omega) (by omega) (by omega) (by omega)])
  have r3 : ∀ zk, zk ≠ 25 → zk ≠ 27 → zk ≠ 33 → zk ≠ 49 → h2.2.2.1 zk = zh.2.2.1 zk := fun zk a1 a2 a3 a4 => (g5 zk a4).trans (f4 zk a1 a2 a3)
  have r4 : h2.2.2.2 = zh.2.2.2 := g2.trans f2
  have s25 : h2.2.1 25 = h1.2.1 25 := g3 25 (by omega) (by omega) (by omega) (by omega) (by omega)
  have s36 : h2.2.1 36 = zh.2.1 36 := r1 36 (by omega) (by omega) (by omega) (by omega) (by omega) (by omega) (by omega) (by omega) (by omega)
  obtain ⟨zw, zT, zS, zF, zB, zH, zX⟩ := hi
  refine ⟨?_, IvT_c zT ⟨?_, ?_⟩ ⟨?_, ?_⟩, IvS_c zS ⟨?_, ?_, ?_, ?_, ?_⟩ ⟨?_, ?_, ?_, ?_⟩, ⟨?_, ?_, ?_, q4, ?_, ?_⟩, IvB_c zB ⟨?_, ?_⟩ ⟨?_, ?_⟩, IvH_c zH ?_ ⟨?_, ?_, ?_⟩, ⟨?_, ?_, ?_⟩⟩
  · unfold WF at zw ⊢
    rw [g1, f1, r4]
    exact zw
  · rw [r1 1 (by omega) (by omega) (by omega) (by omega) (by omega) (by omega) (by omega) (by omega) (by omega)]
  · exact r1 2 (by omega) (by omega) (by omega) (by omega) (by omega) (by omega) (by omega) (by omega) (by omega)
  · exact r2 1 (by omega) (by omega) (by omega) (by omega) (by omega)
  · exact r1 50 (by omega) (by omega) (by omega) (by omega) (by omega) (by omega) (by omega) (by omega) (by omega)
  · exact fun zk y1 y2 y3 => r1 zk (by omega) (by omega) (by omega) (by omega) (by omega) (by omega) (by omega) (by omega) (by omega)
  · rw [r1 30 (by omega) (by omega) (by omega) (by omega) (by omega) (by omega) (by omega) (by omega) (by omega)]
  · exact r3 31 (by omega) (by omega) (by omega) (by omega)
  · rw [r4]
  · rw [r4]
  · exact r2 14 (by omega) (by omega) (by omega) (by omega) (by omega)
  · exact r2 16 (by omega) (by omega) (by omega) (by omega) (by omega)
  · exact r2 17 (by omega) (by omega) (by omega) (by omega) (by omega)
  · exact fun zk y1 y2 => r1 zk (by omega) (by omega) (by omega) (by omega) (by omega) (by omega) (by omega) (by omega) (by omega)
  · exact FLz_c (g3 26 (by omega) (by omega) (by omega) (by omega) (by omega)) (g5 25 (by omega)) (g5 27 (by omega)) q1
  · rw [s25]; exact q2
  · rw [s25]; exact q3
  · exact IMz_c (r1 28 (by omega) (by omega) (by omega) (by omega) (by omega) (by omega) (by omega) (by omega) (by omega)) zF.2.2.2.2.1
  · exact IvC_n zF.2.2.2.2.2 hn s36 c1 (by rw [s25]; exact c2) c3
  · exact r1 35 (by omega) (by omega) (by omega) (by omega) (by omega) (by omega) (by omega) (by omega) (by omega)
  · rw [r1 34 (by omega) (by omega) (by omega) (by omega) (by omega) (by omega) (by omega) (by omega) (by omega)]
  · exact r1 68 (by omega) (by omega) (by omega) (by omega) (by omega) (by omega) (by omega) (by omega) (by omega)
  · exact r2 35 (by omega) (by omega) (by omega) (by omega) (by omega)
  · exact fun zk y1 y2 => r1 zk (by omega) (by omega) (by omega) (by omega) (by omega) (by omega) (by omega) (by omega) (by omega)
  · exact r1 73 (by omega) (by omega) (by omega) (by omega) (by omega) (by omega) (by omega) (by omega) (by omega)
  · exact r1 74 (by omega) (by omega) (by omega) (by omega) (by omega) (by omega) (by omega) (by omega) (by omega)
  · exact r1 75 (by omega) (by omega) (by omega) (by omega) (by omega) (by omega) (by omega) (by omega) (by omega)
  · rw [g0, g3 0 (by omega) (by omega) (by omega) (by omega) (by omega), f0]
  · rw [r1 19 (by omega) (by omega) (by omega) (by omega) (by omega) (by omega) (by omega) (by omega) (by omega), r2 2 (by omega) (by omega) (by omega) (by omega) (by omega)]
    exact zX.2.1
  · unfold KTz
    rw [r1 51 (by omega) (by omega) (by omega) (by omega) (by omega) (by omega) (by omega) (by omega) (by omega), r1 52 (by omega) (by omega) (by omega) (by omega) (by omega) (by omega) (by omega) (by omega) (by omega)]
    exact zX.2.2
theorem sL_I (zh : AH) (zk : Nat) (zf : Nat → Int64) : (sL zh zk zf).2.1 = zh.2.1 := rfl
theorem sI_L (zh : AH) (zk : Nat) (zf : Nat → Int32) : (sI zh zk zf).2.2.1 = zh.2.2.1 := rfl
theorem sL_I2 (zh : AH) (zk : Nat) (zf : Nat → Int64) : (sL zh zk zf).2.2.2 = zh.2.2.2 := rfl
theorem st_put (E : ME) {zn : Nat} {zh : AH} (hi : InV zn zh) (hn : zn ≤ 512) (zi zv : Int32) : StI E zn mX10_put mX11_put 2 2 [.int zi, .int zv] zh := by
  obtain ⟨zw, zT, zS, zF, zB, zH, zX⟩ := id hi
  have c1 := cn_X10_put E zh zi zv _ _ zw zF.1
  by_cases zc : (0 ≤ zi ∧ zi ≤ 63) ∧ (-1 ≤ zv ∧ zv ≤ 5)
  · refine ⟨_, c1, fun zr h1 z1 => ⟨_, z1.1, ?_⟩⟩
    obtain ⟨-, z2, -⟩ := z1
    obtain ⟨z3, z4, z5⟩ := z2 zc
    have c2 := cn_X11_put E h1 zi zv (FrF_w z4 zw)
    have e69 : h1.2.1 69 = zh.2.1 69 := z4.2.2.1 69 (by omega) (by omega)
    have e49 : h1.2.1 49 = zh.2.1 49 := z4.2.2.1 49 (by omega) (by omega)
    have l49 : h1.2.2.1 49 = zh.2.2.1 49 := z4.2.2.2.1 49 (by omega) (by omega)
    obtain ⟨zk, y1, y2⟩ := cell_in ((cell_63 zi).mpr zc.1)
    rw [if_pos zc, if_pos zc] at c2
    refine ⟨_, FrF_w z4 zw, c2, fun zy h2 z6 => ⟨by rw [z6.1, e69, if_pos zc], ?_⟩⟩
    obtain ⟨-, rfl⟩ := z6
    refine flo_i (h1 := h1) (zt := zh.2.1 0 11) (zq := 1) hi hn z4.1 z4.2.1 (fun zk a1 a2 a3 a4 => z4.2.2.1 zk a2 a3) (by rw [z4.2.2.1 0 (by omega) (by omega)]) (fun zk a1 a2 a3 => z4.2.2.2.1 zk a1 a2) rfl rfl (fun zk a1 a2 a3 a4 a5 => by show (sI h1 69 _).2.1 zk = _; exact sI_ne _ _ a2) (fun zj _ _ _ _ _ => rfl) ?_ (fun zk a1 => sL_ne _ _ a1) ?_ ?_ ?_ ?_ (by omega) z5 (fun z => absurd z (by decide))
    · show h1.2.1 49 48 = _
      rw [e49]
      exact zX.1.symm
    · show FLz (upd (h1.2.1 69) zi.toNatClampNeg zv) (h1.2.2.1 49 37 &&& ((1 <<< (zi.toInt64 &&& 63)) ^^^ (-1))) h1
      rw [e69, l49]
      exact z3
    · rw [z4.2.2.2.2 6 (by omega)]
      exact zF.2.1
    · show h1.2.1 49 38 = _
      rw [e49, z4.2.2.2.2 6 (by omega)]
      exact zF.2.2.1
    · intro zj hj
      show lbt (h1.2.2.1 49 37 &&& ((1 <<< (zi.toInt64 &&& 63)) ^^^ (-1))) zj = true → ¬ upd (h1.2.1 69) zi.toNatClampNeg zv zj = -1
      rw [e69, l49, y2, lb_clr y1 hj, nI_clamp (by omega)]
      intro z7
      rw [Bool.and_eq_true] at z7
      have z8 : ¬ zj = zk := by simpa using z7.2
      unfold upd
      rw [if_neg z8]
      exact zF.2.2.2.1 zj hj z7.1
  · refine ⟨_, c1, fun zr h1 z1 => ⟨_, z1.1, ?_⟩⟩
    obtain ⟨-, -, z2⟩ := z1
    have e1 := z2 zc
    subst e1
    have c2 := cn_X11_put E h1 zi zv zw
    rw [if_neg zc, if_neg zc] at c2
    exact ⟨_, zw, c2, fun zy h2 z6 => ⟨by rw [z6.1, if_neg zc], by rw [z6.2]; exact InV_s hi⟩⟩
theorem un_ct (zx : Int64) : ∀ zn, zn ≤ 64 → unF zx zn = nI (fb_ct (lbt zx) zn)
  | 0, _ => by rw [unF]; rfl
  | zn + 1, h => by
    rw [unF, un_ct zx zn (by omega), fb_ct_succ]
    by_cases z : lbt zx zn = true
    · rw [if_pos ((lb_shr1 zx (by omega)).mpr z), if_pos z]
      exact nI_add _ 1
    · rw [if_neg (fun y => z ((lb_shr1 zx (by omega)).mp y)), if_neg z]
      rfl
theorem un_bc (zx : Int64) : unF zx 64 = bcL zx := by rw [un_ct zx 64 (by omega), bcL_bt]
theorem st_undo (E : ME) {zn : Nat} {zh : AH} (hi : InV zn zh) (hn : zn ≤ 512) : StI E zn mX10_undo mX11_undo 3 0 [] zh := by
  obtain ⟨zw, zT, zS, zF, zB, zH, zX⟩ := id hi
  have c1 := cn_X10_undo E zh _ _ zw zF.1 zF.2.1
  by_cases zc : zh.2.1 25 6 = 0
  · refine ⟨_, c1, fun zr h1 z1 => ⟨_, z1.1, ?_⟩⟩
    obtain ⟨-, z2, -⟩ := z1
    have e1 := z2 zc
    subst e1
    have c2 := cn_X11_undo E h1 zw
    rw [zF.2.2.1, if_pos zc, if_pos zc] at c2
    exact ⟨_, zw, c2, fun zy h2 z6 => ⟨by rw [z6.1, if_pos zc], by rw [z6.2]; exact InV_s hi⟩⟩
  · refine ⟨_, c1, fun zr h1 z1 => ⟨_, z1.1, ?_⟩⟩
    obtain ⟨-, -, z2⟩ := z1
    obtain ⟨z3, z4, z5, zq, q1, q2, q3⟩ := z2 zc
    have e69 : h1.2.1 69 = zh.2.1 69 := z4.2.2.1 69 (by omega) (by omega)
    have e49 : h1.2.1 49 = zh.2.1 49 := z4.2.2.1 49 (by omega) (by omega)
    have l49 : h1.2.2.1 49 = zh.2.2.1 49 := z4.2.2.2.1 49 (by omega) (by omega)
    have zw1 : WF h1 := by unfold WF at zw ⊢; rw [z4.1, z4.2.1]; exact zw
    have c2 := cn_X11_undo E h1 zw1
    have zc1 : ¬ h1.2.1 49 38 = 0 := by rw [e49, zF.2.2.1]; exact zc
    rw [if_neg zc1, if_neg zc1] at c2
    refine ⟨_, zw1, c2, fun zy h2 z6 => ⟨by rw [z6.1, l49, if_neg zc, un_bc], ?_⟩⟩
    obtain ⟨-, rfl⟩ := z6
    refine flo_i (h1 := h1) (zt := zh.2.1 0 11) (zq := zq) hi hn z4.1 z4.2.1 (fun zk a1 a2 a3 a4 => z4.2.2.1 zk a2 a3) (by rw [z4.2.2.1 0 (by omega) (by omega)]) (fun zk a1 a2 a3 => z4.2.2.2.1 zk a1 a2) rfl rfl (fun zk a1 a2 a3 a4 a5 => by rw [sI_ne _ _ a1, sL_I]; exact sI_ne _ _ a2) (fun zj a1 _ _ _ _ => by rw [sI_at]; exact if_neg a1) ?_ (fun zk a1 => by rw [sI_L]; exact sL_ne _ _ a1) ?_ (Or.inl z5) z5.symm ?_ (by omega) q2 ?_
    · show h1.2.1 49 48 = _
      rw [e49]
      exact zX.1.symm
    · rw [sI_ne _ _ (show (69 : Nat) ≠ 49 by omega), sL_I, sI_at, sI_L, sL_at, e69, l49]
      exact z3
    · intro zj hj
      rw [sI_L, sL_at]
      intro z
      exact absurd ((lb_0 zj).symm.trans z) (by decide)
    · intro z zj hj
      rw [sI_ne _ _ (show (69 : Nat) ≠ 49 by omega), sL_I, sI_at, e69, l49, q3 z]
theorem mxK_same {zf : Nat → Int32} {zp zt zi zj : Nat} {zg zk : Nat → Int32} : ∀ zn, (zg zj = zk zj ∨ ∃ zc, zc < zn ∧ pnN (fg zp zi) zc = zj) → mxK zf zp zt zi zg zn zj = mxK zf zp zt zi zk zn zj
  | 0, h => by
    rw [mxK, mxK]
    rcases h with h | ⟨zc, h, -⟩
    · exact h
    · omega
  | zn + 1, h => by
    rw [mxK, mxK]
    unfold upd
    by_cases z : zj = 32 * (fg zp zi / 2) + 4 * (fg zp zi % 2) + 8 * (zn / 4) + zn % 4
    · rw [if_pos z, if_pos z]
    · rw [if_neg z, if_neg z]
      refine mxK_same zn ?_
      rcases h with h | ⟨zc, h, h2⟩
      · exact Or.inl h
      · refine Or.inr ⟨zc, ?_, h2⟩
        rcases Nat.lt_or_ge zc zn with y | y
        · exact y
        · exfalso
          apply z
          rw [← h2, show zc = zn by omega]
          unfold pnN
          omega
theorem mxI_same {zf : Nat → Int32} {zp zt zj : Nat} {zg zk : Nat → Int32} : ∀ zn, (zg zj = zk zj ∨ ∃ za, za < zn ∧ ∃ zc, zc < 16 ∧ pnN (fg zp za) zc = zj) → mxI zf zp zt zg zn zj = mxI zf zp zt zk zn zj
  | 0, h => by
    rw [mxI, mxI]
    rcases h with h | ⟨za, h, -⟩
    · exact h
    · omega
  | zn + 1, h => by
    rw [mxI, mxI]
    refine mxK_same 16 ?_
    rcases h with h | ⟨za, h, zc, h2, h3⟩
    · exact Or.inl (mxI_same zn (Or.inl h))
    · rcases Nat.lt_or_ge za zn with y | y
      · exact Or.inl (mxI_same zn (Or.inr ⟨za, y, zc, h2, h3⟩))
      · rw [show za = zn by omega] at h3
        exact Or.inr ⟨zc, h2, h3⟩
theorem mx_any {zf : Nat → Int32} {zp zt zj : Nat} (hp : zp < 256) (hu : unl zp) (hj : zj < 64) (zg zk : Nat → Int32) : mxI zf zp zt zg 4 zj = mxI zf zp zt zk 4 zj := by
  obtain ⟨zq, y1, zc, y2, y3⟩ := pn_all zj hj
  obtain ⟨za, y4, y5⟩ := unl_all zp hp hu zq y1
  exact mxI_same 4 (Or.inr ⟨za, y4, zc, y2, by rw [y5]; exact y3⟩)
theorem st_mix (E : ME) {zn : Nat} {zh : AH} (hi : InV zn zh) (hn : zn ≤ 512) (zp zt : Int32) : StI E zn mX10_mix mX11_mix 3 2 [.int zp, .int zt] zh := by
  obtain ⟨zw, zT, zS, zF, zB, zH, zX⟩ := id hi
  have c1 := cn_X10_mix E zh zp zt _ _ zw zF.1
  by_cases zc : (0 ≤ zp ∧ zp ≤ 255) ∧ unl zp.toNatClampNeg ∧ (0 ≤ zt ∧ zt ≤ 255)
  · refine ⟨_, c1, fun zr h1 z1 => ⟨_, z1.1, ?_⟩⟩
    obtain ⟨-, z2, -⟩ := z1
    obtain ⟨z3, z41, z42, z43, z44, z45, z5, zq, q1, q2, q3⟩ := z2 zc
    have e69 : h1.2.1 69 = zh.2.1 69 := z43 69 (by omega) (by omega) (by omega)
    have e49 : h1.2.1 49 = zh.2.1 49 := z43 49 (by omega) (by omega) (by omega)
    have l49 : h1.2.2.1 49 = zh.2.2.1 49 := z44 49 (by omega) (by omega)
    have zw1 : WF h1 := by unfold WF at zw ⊢; rw [z41, z42]; exact zw
    have c2 := cn_X11_mix E h1 zp zt zw1
    rw [if_pos zc, if_pos zc] at c2
    have y1 := (cl_le (za := 255) zc.1 (by decide)).1
    have ze : ∀ zj, zj < 64 → cpF (mxI (h1.2.1 69) zp.toNatClampNeg zt.toNatClampNeg (h1.2.1 72) 4) (h1.2.1 69) 64 zj = mxI (zh.2.1 69) zp.toNatClampNeg zt.toNatClampNeg (zh.2.1 69) 4 zj := by
      intro zj hj
      rw [cpF_at, if_pos hj, e69]
      exact mx_any (by omega) zc.2.1 hj _ _
    refine ⟨_, zw1, c2, fun zy h2 z6 => ⟨by rw [z6.1, if_pos zc], ?_⟩⟩
    obtain ⟨-, rfl⟩ := z6
    refine flo_i (h1 := h1) (zt := zh.2.1 0 11) (zq := zq) hi hn z41 z42 (fun zk a1 a2 a3 a4 => z43 zk a2 a3 a4) (by rw [z43 0 (by omega) (by omega) (by omega)]) (fun zk a1 a2 a3 => z44 zk a1 a2) rfl rfl (fun zk a1 a2 a3 a4 a5 => by rw [sL_I, sI_ne _ _ a1, sI_ne _ _ a2]; exact sI_ne _ _ a5) (fun zj a1 _ _ _ _ => by rw [sL_I, sI_at]; exact if_neg a1) ?_ (fun zk a1 => sL_ne _ _ a1) ?_ (Or.inl z5) z5.symm ?_ (by omega) q2 ?_
    · show h1.2.1 49 48 = _
      rw [e49]
      exact zX.1.symm
    · rw [sL_I, sI_ne _ _ (show (69 : Nat) ≠ 49 by omega), sI_at, sL_at]
      exact FLz_f (fun zj hj => (ze zj hj).symm) z3
    · intro zj hj
      rw [sL_at]
      intro z
      exact absurd ((lb_0 zj).symm.trans z) (by decide)
    · intro z zj hj
      rw [sL_I, sI_ne _ _ (show (69 : Nat) ≠ 49 by omega), sI_at, ze zj hj, q3 z]
  · refine ⟨_, c1, fun zr h1 z1 => ⟨_, z1.1, ?_⟩⟩
    obtain ⟨-, -, z2⟩ := z1
    have e1 := z2 zc
    subst e1
    have c2 := cn_X11_mix E h1 zp zt zw
    rw [if_neg zc, if_neg zc] at c2
    exact ⟨_, zw, c2, fun zy h2 z6 => ⟨by rw [z6.1, if_neg zc], by rw [z6.2]; exact InV_s hi⟩⟩
