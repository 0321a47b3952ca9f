def PBw (zf : Nat → Int32) (za : AH) : Prop := za.2.1 36 3 = (tgP (fun zp zt => soK zf zp zt 4) 256).2.1 ∧ za.2.1 36 4 = (tgP (fun zp zt => soK zf zp zt 4) 256).1 / 256 ∧ za.2.1 36 5 = (tgP (fun zp zt => soK zf zp zt 4) 256).1 - (tgP (fun zp zt => soK zf zp zt 4) 256).1 / 256 * 256 ∧ za.2.1 36 6 = (tgP (fun zp zt => soK zf zp zt 4) 256).2.2
def IvT (za zb : AH) : Prop := ∃ (zc : Nat → Nat) (zn : Nat), TCz za zc zn ∧ TMz zb zc zn
def SQz (zt : PSt) (za zb : AH) : Prop := za.2.1 20 4 = nI (zt.1 1) ∧ (∀ zk, zk < zt.1 1 → za.2.1 21 zk = zb.2.1 55 zk) ∧ (∀ zk, zk < zt.1 1 → za.2.1 22 zk = befF (zt.1 1) (zb.2.1 55) (zb.2.1 55) zk) ∧ CWz za (zt.1 1)
def BKz (zt : PSt) (za : AH) : Prop := za.2.1 30 1 = nI (zt.1 2) ∧ SHz (fun zp zi => zt.2 6 (16 * zp + zi)) (zt.1 2) za
def STw (zt : PSt) (za : AH) : Prop := (STz zt 3 za ∧ za.2.2.2 0 1 = some 3 ∧ za.2.2.2 0 2 = some 11) ∨ (STz zt 11 za ∧ za.2.2.2 0 1 = some 11 ∧ za.2.2.2 0 2 = some 3)
def IvS (za zb : AH) : Prop := ∃ zt : PSt, POK zt ∧ ENz zt zb ∧ STw zt za ∧ SQz zt za zb ∧ BKz zt za
def IvC (zn : Nat) (zf : Nat → Int32) (za : AH) : Prop := ∃ zc, zc ≤ 384 * zn ∧ za.2.1 25 7 = nI zc ∧ (za.2.1 36 7 = -1 ∨ ∃ zd, zd ≤ zc ∧ za.2.1 36 7 = nI zd) ∧ (za.2.1 36 7 = za.2.1 25 7 → PBw zf za)
def IvF (zn : Nat) (za zb : AH) : Prop := FLz (zb.2.1 69) (zb.2.2.1 49 37) za ∧ (za.2.1 25 6 = 0 ∨ za.2.1 25 6 = 1) ∧ zb.2.1 49 38 = za.2.1 25 6 ∧ (∀ zj, zj < 64 → lbt (zb.2.2.1 49 37) zj = true → ¬ zb.2.1 69 zj = -1) ∧ IMz za ∧ IvC zn (zb.2.1 69) za
def IvB (za zb : AH) : Prop := za.2.1 35 = zb.2.1 68 ∧ ∃ zq, zq ≤ 24 ∧ za.2.1 34 1 = nI zq ∧ zb.2.1 49 35 = nI zq
def Iv1 (zc zk : Nat) (za zb : AH) : Prop := ∃ zz, zz ≤ 64 ∧ zb.2.1 74 zk = nI zz ∧ za.2.1 zc 3 = nI zz ∧ (za.2.1 zc 1 = 0 ∨ za.2.1 zc 1 = 1) ∧ zb.2.1 73 zk = (if za.2.1 zc 1 = 0 then -4 else za.2.1 zc 2) ∧ ¬ za.2.1 zc 2 = -4 ∧ ∀ zi, zi < 64 → za.2.1 (zc + 1) zi = zb.2.1 75 (64 * zk + zi)
def IvH (za zb : AH) : Prop := Iv1 41 0 za zb ∧ Iv1 43 1 za zb ∧ Iv1 45 2 za zb ∧ Iv1 47 3 za zb
def IvX (za zb : AH) : Prop := za.2.1 0 11 = zb.2.1 49 48 ∧ za.2.1 19 3 = zb.2.1 49 2 ∧ KTz zb
def CMz (zn : Nat) (za zb : AH) : Prop := IvT za zb ∧ IvS za zb ∧ IvF zn za zb ∧ IvB za zb ∧ IvH za zb ∧ IvX za zb
def InV (zn : Nat) (zh : AH) : Prop := WF zh ∧ CMz zn zh zh
def KsT (za zc : AH) : Prop := zc.2.1 1 1 = za.2.1 1 1 ∧ zc.2.1 2 = za.2.1 2
def KsS (za zc : AH) : Prop := (∀ zk, 3 ≤ zk → zk ≤ 24 → zk ≠ 19 → zc.2.1 zk = za.2.1 zk) ∧ zc.2.1 30 1 = za.2.1 30 1 ∧ zc.2.2.1 31 = za.2.2.1 31 ∧ zc.2.2.2 0 1 = za.2.2.2 0 1 ∧ zc.2.2.2 0 2 = za.2.2.2 0 2
def KsF (za zc : AH) : Prop := zc.2.1 25 = za.2.1 25 ∧ zc.2.1 26 = za.2.1 26 ∧ zc.2.1 28 = za.2.1 28 ∧ zc.2.1 36 = za.2.1 36 ∧ zc.2.2.1 25 = za.2.2.1 25 ∧ zc.2.2.1 27 = za.2.2.1 27
def KsB (za zc : AH) : Prop := zc.2.1 35 = za.2.1 35 ∧ zc.2.1 34 1 = za.2.1 34 1
def KsH (za zc : AH) : Prop := ∀ zk, 41 ≤ zk → zk ≤ 48 → zc.2.1 zk = za.2.1 zk
def KsX (za zc : AH) : Prop := zc.2.1 0 11 = za.2.1 0 11 ∧ zc.2.1 19 3 = za.2.1 19 3
def LsT (zb zd : AH) : Prop := zd.2.1 49 1 = zb.2.1 49 1 ∧ zd.2.1 50 = zb.2.1 50
def LsS (zb zd : AH) : Prop := zd.2.1 49 14 = zb.2.1 49 14 ∧ zd.2.1 49 16 = zb.2.1 49 16 ∧ zd.2.1 49 17 = zb.2.1 49 17 ∧ ∀ zk, 53 ≤ zk → zk ≤ 58 → zd.2.1 zk = zb.2.1 zk
def LsF (zb zd : AH) : Prop := zd.2.1 69 = zb.2.1 69 ∧ zd.2.1 49 38 = zb.2.1 49 38 ∧ zd.2.2.1 49 37 = zb.2.2.1 49 37
def LsB (zb zd : AH) : Prop := zd.2.1 68 = zb.2.1 68 ∧ zd.2.1 49 35 = zb.2.1 49 35
def LsH (zb zd : AH) : Prop := zd.2.1 73 = zb.2.1 73 ∧ zd.2.1 74 = zb.2.1 74 ∧ zd.2.1 75 = zb.2.1 75
def LsX (zb zd : AH) : Prop := zd.2.1 49 48 = zb.2.1 49 48 ∧ zd.2.1 49 2 = zb.2.1 49 2 ∧ zd.2.1 51 = zb.2.1 51 ∧ zd.2.1 52 = zb.2.1 52
theorem IvT_c {za zb zc zd : AH} (zh : IvT za zb) (zk : KsT za zc) (zl : LsT zb zd) : IvT zc zd := by
  obtain ⟨zx, zn, z1, z2⟩ := zh
  refine ⟨zx, zn, ?_, ?_⟩
  · unfold TCz at z1 ⊢
    rw [zk.1, zk.2]
    exact z1
  · unfold TMz at z2 ⊢
    rw [zl.1, zl.2]
    exact z2
theorem STz_c {zt : PSt} {zq : Nat} {za zc : AH} (ze : ∀ zk, zq ≤ zk → zk ≤ zq + 7 → zc.2.1 zk = za.2.1 zk) (zh : STz zt zq za) : STz zt zq zc := by
  unfold STz at zh ⊢
  rw [ze zq (by omega) (by omega), ze (zq + 1) (by omega) (by omega), ze (zq + 2) (by omega) (by omega), ze (zq + 3) (by omega) (by omega), ze (zq + 4) (by omega) (by omega), ze (zq + 5) (by omega) (by omega), ze (zq + 6) (by omega) (by omega), ze (zq + 7) (by omega) (by omega)]
  exact zh
theorem ENz_c {zt : PSt} {zb zd : AH} (zl : LsS zb zd) (zh : ENz zt zb) : ENz zt zd := by
  obtain ⟨z1, z2, z3, z4⟩ := zl
  unfold ENz at zh ⊢
  rw [z1, z2, z3, z4 53 (by omega) (by omega), z4 54 (by omega) (by omega), z4 55 (by omega) (by omega), z4 56 (by omega) (by omega), z4 57 (by omega) (by omega), z4 58 (by omega) (by omega)]
  exact zh
theorem CWz_c {zm : Nat} {za zc : AH} (z1 : zc.2.1 20 5 = za.2.1 20 5) (z2 : zc.2.1 22 = za.2.1 22) (z3 : zc.2.1 23 = za.2.1 23) (z4 : zc.2.1 24 = za.2.1 24) (zh : CWz za zm) : CWz zc zm := by
  unfold CWz CWt at zh ⊢
  rw [z1, z2, z3, z4]
  exact zh
theorem STw_c {zt : PSt} {za zc : AH} (zk : KsS za zc) (zh : STw zt za) : STw zt zc := by
  unfold STw at zh ⊢
  rw [zk.2.2.2.1, zk.2.2.2.2]
  rcases zh with ⟨z1, z2⟩ | ⟨z1, z2⟩
  · exact Or.inl ⟨STz_c (fun zi y1 y2 => zk.1 zi (by omega) (by omega) (by omega)) z1, z2⟩
  · exact Or.inr ⟨STz_c (fun zi y1 y2 => zk.1 zi (by omega) (by omega) (by omega)) z1, z2⟩
theorem SQz_c {zt : PSt} {za zb zc zd : AH} (zk : KsS za zc) (zl : LsS zb zd) (zh : SQz zt za zb) : SQz zt zc zd := by
  obtain ⟨z1, z2, z3, z4⟩ := zh
  have y20 := zk.1 20 (by omega) (by omega) (by omega)
  have y21 := zk.1 21 (by omega) (by omega) (by omega)
  have y22 := zk.1 22 (by omega) (by omega) (by omega)
  have y55 := zl.2.2.2 55 (by omega) (by omega)
  refine ⟨by rw [y20]; exact z1, ?_, ?_, CWz_c (by rw [y20]) y22 (zk.1 23 (by omega) (by omega) (by omega)) (zk.1 24 (by omega) (by omega) (by omega)) z4⟩
  · rw [y21, y55]; exact z2
  · rw [y22, y55]; exact z3
theorem BKz_c {zt : PSt} {za zc : AH} (zk : KsS za zc) (zh : BKz zt za) : BKz zt zc := by
  unfold BKz SHz at zh ⊢
  rw [zk.2.1, zk.2.2.1]
  exact zh
theorem IvS_c {za zb zc zd : AH} (zh : IvS za zb) (zk : KsS za zc) (zl : LsS zb zd) : IvS zc zd := by
  obtain ⟨zt, z1, z2, z3, z4, z5⟩ := zh
  exact ⟨zt, z1, ENz_c zl z2, STw_c zk z3, SQz_c zk zl z4, BKz_c zk z5⟩
theorem PBw_c {zf : Nat → Int32} {za zc : AH} (zk : zc.2.1 36 = za.2.1 36) (zh : PBw zf za) : PBw zf zc := by
  unfold PBw at zh ⊢
  rw [zk]
  exact zh
theorem IvC_c {zn : Nat} {zf : Nat → Int32} {za zc : AH} (z1 : zc.2.1 25 7 = za.2.1 25 7) (z2 : zc.2.1 36 = za.2.1 36) (zh : IvC zn zf za) : IvC (zn + 1) zf zc := by
  obtain ⟨zx, y1, y2, y3, y4⟩ := zh
  refine ⟨zx, by omega, z1.trans y2, ?_, ?_⟩
  · rw [z2]; exact y3
  · rw [z1, z2]; exact fun z => PBw_c z2 (y4 z)
theorem FLz_c {zf : Nat → Int32} {zx : Int64} {za zc : AH} (z1 : zc.2.1 26 = za.2.1 26) (z2 : zc.2.2.1 25 = za.2.2.1 25) (z3 : zc.2.2.1 27 = za.2.2.1 27) (zh : FLz zf zx za) : FLz zf zx zc := by
  unfold FLz at zh ⊢
  rw [z1, z2, z3]
  exact zh
theorem IMz_c {za zc : AH} (z1 : zc.2.1 28 = za.2.1 28) (zh : IMz za) : IMz zc := by
  unfold IMz at zh ⊢
  rw [z1]
  exact zh
theorem IvF_c {zn : Nat} {za zb zc zd : AH} (zh : IvF zn za zb) (zk : KsF za zc) (zl : LsF zb zd) : IvF (zn + 1) zc zd := by
  obtain ⟨k1, k2, k3, k4, k5, k6⟩ := zk
  obtain ⟨l1, l2, l3⟩ := zl
  obtain ⟨z1, z2, z3, z4, z5, z6⟩ := zh
  refine ⟨?_, by rw [k1]; exact z2, by rw [l2, k1]; exact z3, by rw [l3, l1]; exact z4, IMz_c k3 z5, ?_⟩
  · rw [l1, l3]; exact FLz_c k2 k5 k6 z1
  · rw [l1]; exact IvC_c (by rw [k1]) k4 z6
theorem IvB_c {za zb zc zd : AH} (zh : IvB za zb) (zk : KsB za zc) (zl : LsB zb zd) : IvB zc zd := by
  unfold IvB at zh ⊢
  rw [zk.1, zk.2, zl.1, zl.2]
  exact zh
theorem Iv1_c {zi zj : Nat} {za zb zc zd : AH} (z1 : zc.2.1 zi = za.2.1 zi) (z2 : zc.2.1 (zi + 1) = za.2.1 (zi + 1)) (zl : LsH zb zd) (zh : Iv1 zi zj za zb) : Iv1 zi zj zc zd := by
  unfold Iv1 at zh ⊢
  rw [z1, z2, zl.1, zl.2.1, zl.2.2]
  exact zh
theorem IvH_c {za zb zc zd : AH} (zh : IvH za zb) (zk : KsH za zc) (zl : LsH zb zd) : IvH zc zd :=
  ⟨Iv1_c (zk 41 (by omega) (by omega)) (zk 42 (by omega) (by omega)) zl zh.1, Iv1_c (zk 43 (by omega) (by omega)) (zk 44 (by omega) (by omega)) zl zh.2.1, Iv1_c (zk 45 (by omega) (by omega)) (zk 46 (by omega) (by omega)) zl zh.2.2.1, Iv1_c (zk 47 (by omega) (by omega)) (zk 48 (by omega) (by omega)) zl zh.2.2.2⟩
theorem IvX_c {za zb zc zd : AH} (zh : IvX za zb) (zk : KsX za zc) (zl : LsX zb zd) : IvX zc zd := by
  unfold IvX KTz at zh ⊢
  rw [zk.1, zk.2, zl.1, zl.2.1, zl.2.2.1, zl.2.2.2]
  exact zh
theorem KsT_0 (za : AH) : KsT za za := ⟨rfl, rfl⟩
theorem KsS_0 (za : AH) : KsS za za := ⟨fun _ _ _ _ => rfl, rfl, rfl, rfl, rfl⟩
theorem KsF_0 (za : AH) : KsF za za := ⟨rfl, rfl, rfl, rfl, rfl, rfl⟩
theorem KsB_0 (za : AH) : KsB za za := ⟨rfl, rfl⟩
theorem KsH_0 (za : AH) : KsH za za := fun _ _ _ => rfl
theorem KsX_0 (za : AH) : KsX za za := ⟨rfl, rfl⟩
theorem LsT_0 (za : AH) : LsT za za := ⟨rfl, rfl⟩
theorem LsS_0 (za : AH) : LsS za za := ⟨rfl, rfl, rfl, fun _ _ _ => rfl⟩
theorem LsF_0 (za : AH) : LsF za za := ⟨rfl, rfl, rfl⟩
theorem LsB_0 (za : AH) : LsB za za := ⟨rfl, rfl⟩
theorem LsH_0 (za : AH) : LsH za za := ⟨rfl, rfl, rfl⟩
theorem LsX_0 (za : AH) : LsX za za := ⟨rfl, rfl, rfl, rfl⟩
/-- class part as it was, model part as it was where the groups look -/
theorem CMz_c {zn : Nat} {za zb zc zd : AH} (kT : KsT za zc) (kS : KsS za zc) (kF : KsF za zc) (kB : KsB za zc) (kH : KsH za zc) (kX : KsX za zc) (lT : LsT zb zd) (lS : LsS zb zd) (lF : LsF zb zd) (lB : LsB zb zd) (lH : LsH zb zd) (lX : LsX zb zd) (zh : CMz zn za zb) : CMz (zn + 1) zc zd :=
  ⟨IvT_c zh.1 kT lT, IvS_c zh.2.1 kS lS, IvF_c zh.2.2.1 kF lF, IvB_c zh.2.2.2.1 kB lB, IvH_c zh.2.2.2.2.1 kH lH, IvX_c zh.2.2.2.2.2 kX lX⟩
/-- a model's heap that differs in what no group reads -/
def Mscr (zb zd : AH) : Prop := zd.1 = zb.1 ∧ zd.2.2.2 = zb.2.2.2 ∧ (∀ zk, zk ≠ 49 → zk ≠ 66 → zk ≠ 70 → zk ≠ 71 → zk ≠ 72 → zd.2.1 zk = zb.2.1 zk) ∧ (∀ zj, zj ≠ 39 → zj ≠ 40 → zj ≠ 41 → zd.2.1 49 zj = zb.2.1 49 zj) ∧ ∀ zk, zk ≠ 67 → zd.2.2.1 zk = zb.2.2.1 zk
theorem Ms_w {zb zd : AH} (zm : Mscr zb zd) (zw : WF zb) : WF zd := by
  unfold WF at zw ⊢
  rw [zm.1, zm.2.1]
  exact zw
theorem Ms_i {zn : Nat} {zb zd : AH} (zm : Mscr zb zd) (zh : InV zn zb) : InV (zn + 1) zd := by
  obtain ⟨z1, z2, z3, z4, z5⟩ := zm
  refine ⟨Ms_w ⟨z1, z2, z3, z4, z5⟩ zh.1, CMz_c ⟨?_, ?_⟩ ⟨?_, ?_, ?_, ?_, ?_⟩ ⟨?_, ?_, ?_, ?_, ?_, ?_⟩ ⟨?_, ?_⟩ ?_ ⟨?_, ?_⟩ ⟨?_, ?_⟩ ⟨?_, ?_, ?_, ?_⟩ ⟨?_, ?_, ?_⟩ ⟨?_, ?_⟩ ⟨?_, ?_, ?_⟩ ⟨?_, ?_, ?_, ?_⟩ zh.2⟩
  · rw [z3 1 (by omega) (by omega) (by omega) (by omega) (by omega)]
  · exact z3 2 (by omega) (by omega) (by omega) (by omega) (by omega)
  · intro zk y1 y2 y3
    exact z3 zk (by omega) (by omega) (by omega) (by omega) (by omega)
  · rw [z3 30 (by omega) (by omega) (by omega) (by omega) (by omega)]
  · exact z5 31 (by omega)
  · rw [z2]
  · rw [z2]
  · exact z3 25 (by omega) (by omega) (by omega) (by omega) (by omega)
  · exact z3 26 (by omega) (by omega) (by omega) (by omega) (by omega)
  · exact z3 28 (by omega) (by omega) (by omega) (by omega) (by omega)
  · exact z3 36 (by omega) (by omega) (by omega) (by omega) (by omega)
  · exact z5 25 (by omega)
  · exact z5 27 (by omega)
  · exact z3 35 (by omega) (by omega) (by omega) (by omega) (by omega)
  · rw [z3 34 (by omega) (by omega) (by omega) (by omega) (by omega)]
  · intro zk y1 y2
    exact z3 zk (by omega) (by omega) (by omega) (by omega) (by omega)
  · rw [z3 0 (by omega) (by omega) (by omega) (by omega) (by omega)]
  · rw [z3 19 (by omega) (by omega) (by omega) (by omega) (by omega)]
  · exact z4 1 (by omega) (by omega) (by omega)
  · exact z3 50 (by omega) (by omega) (by omega) (by omega) (by omega)
  · exact z4 14 (by omega) (by omega) (by omega)
  · exact z4 16 (by omega) (by omega) (by omega)
  · exact z4 17 (by omega) (by omega) (by omega)
  · intro zk y1 y2
    exact z3 zk (by omega) (by omega) (by omega) (by omega) (by omega)
  · exact z3 69 (by omega) (by omega) (by omega) (by omega) (by omega)
  · exact z4 38 (by omega) (by omega) (by omega)
  · rw [z5 49 (by omega)]
  · exact z3 68 (by omega) (by omega) (by omega) (by omega) (by omega)
  · exact z4 35 (by omega) (by omega) (by omega)
  · exact z3 73 (by omega) (by omega) (by omega) (by omega) (by omega)
  · exact z3 74 (by omega) (by omega) (by omega) (by omega) (by omega)
  · exact z3 75 (by omega) (by omega) (by omega) (by omega) (by omega)
  · exact z4 48 (by omega) (by omega) (by omega)
  · exact z4 2 (by omega) (by omega) (by omega)
  · exact z3 51 (by omega) (by omega) (by omega) (by omega) (by omega)
  · exact z3 52 (by omega) (by omega) (by omega) (by omega) (by omega)
theorem Ms_0 (zb : AH) : Mscr zb zb := ⟨rfl, rfl, fun _ _ _ _ _ _ => rfl, fun _ _ _ _ => rfl, fun _ _ => rfl⟩
theorem Ms_66 (zb : AH) (zf : Nat → Int32) : Mscr zb (sI zb 66 zf) := ⟨rfl, rfl, fun _ _ z _ _ _ => if_neg z, fun _ _ _ _ => rfl, fun _ _ => rfl⟩
theorem Ms_67 {zb zd : AH} (zm : Mscr zb zd) (zf : Nat → Int64) : Mscr zb (sL zd 67 zf) := ⟨zm.1, zm.2.1, zm.2.2.1, zm.2.2.2.1, fun zk z => (if_neg z : (sL zd 67 zf).2.2.1 zk = zd.2.2.1 zk).trans (zm.2.2.2.2 zk z)⟩
theorem Ms_lc (zb : AH) (za zy zd : Int32) : Mscr zb (lcH zb za zy zd) := ⟨rfl, rfl, fun _ z _ _ _ _ => if_neg z, fun zj z1 z2 z3 => by show upd (upd (upd (zb.2.1 49) 39 za) 40 zy) 41 zd zj = _; unfold upd; rw [if_neg z3, if_neg z2, if_neg z1], fun _ _ => rfl⟩
theorem Ms_lcX {zb zd : AH} (zx : lcX zb zd) : Mscr zb zd := by
  obtain ⟨z1, z2, z3, rfl⟩ := zx
  exact Ms_lc _ _ _ _
theorem Ms_lwX {zb zd : AH} (zx : lwX zb zd) : Mscr zb zd := by
  obtain ⟨z1, z2, z3, zf, zg, rfl⟩ := zx
  have zm := Ms_lc zb z1 z2 z3
  refine ⟨rfl, rfl, fun zk y1 y2 y3 y4 y5 => ?_, zm.2.2.2.1, fun _ _ => rfl⟩
  rw [sI_ne _ _ y4, sI_ne _ _ y3]
  exact zm.2.2.1 zk y1 y2 y3 y4 y5
/-- one call on both: the answers are the same int, and what stands stands on -/
def StI (E : ME) (zn : Nat) (zM zR : MM) (zd ze : Nat) (zs : List Value) (zh : AH) : Prop := ∃ Q1 : PO, Con E zM zd 0 0 (.ref 0 :: zs) zh Q1 ∧ ∀ zv h1, Q1 zv h1 → ∃ zx : Int32, zv = some (.int zx) ∧ ∃ Q2 : PO, WF h1 ∧ Con E zR ze 0 0 (.ref 49 :: zs) h1 Q2 ∧ ∀ zw h2, Q2 zw h2 → zw = some (.int zx) ∧ InV (zn + 1) h2
def StJ (E : ME) (zn : Nat) (zM zR : MM) (zd ze : Nat) (zs : List Value) (zh : AH) : Prop := ∃ Q1 : PO, Con E zM zd 0 0 (.ref 0 :: zs) zh Q1 ∧ ∀ zv h1, Q1 zv h1 → ∃ zx : Int64, zv = some (.long zx) ∧ ∃ Q2 : PO, WF h1 ∧ Con E zR ze 0 0 (.ref 49 :: zs) h1 Q2 ∧ ∀ zw h2, Q2 zw h2 → zw = some (.long zx) ∧ InV (zn + 1) h2
theorem StI_mk {E : ME} {zn : Nat} {zM zR : MM} {zd ze : Nat} {zs : List Value} {zh h1 h2 : AH} {zx zy : Int32} (c1 : Con E zM zd 0 0 (.ref 0 :: zs) zh (fun r h' => r = some (.int zx) ∧ h' = h1)) (hw : WF h1) (c2 : Con E zR ze 0 0 (.ref 49 :: zs) h1 (fun r h' => r = some (.int zy) ∧ h' = h2)) (he : zy = zx) (hi : InV (zn + 1) h2) : StI E zn zM zR zd ze zs zh := by
  refine ⟨_, c1, fun zv g1 z1 => ⟨zx, z1.1, ?_⟩⟩
  obtain ⟨-, rfl⟩ := z1
  exact ⟨_, hw, c2, fun zw g2 z2 => ⟨by rw [z2.1, he], by rw [z2.2]; exact hi⟩⟩
theorem StJ_mk {E : ME} {zn : Nat} {zM zR : MM} {zd ze : Nat} {zs : List Value} {zh h1 h2 : AH} {zx zy : Int64} (c1 : Con E zM zd 0 0 (.ref 0 :: zs) zh (fun r h' => r = some (.long zx) ∧ h' = h1)) (hw : WF h1) (c2 : Con E zR ze 0 0 (.ref 49 :: zs) h1 (fun r h' => r = some (.long zy) ∧ h' = h2)) (he : zy = zx) (hi : InV (zn + 1) h2) : StJ E zn zM zR zd ze zs zh := by
  refine ⟨_, c1, fun zv g1 z1 => ⟨zx, z1.1, ?_⟩⟩
  obtain ⟨-, rfl⟩ := z1
  exact ⟨_, hw, c2, fun zw g2 z2 => ⟨by rw [z2.1, he], by rw [z2.2]; exact hi⟩⟩
/-- a question: the class's heap stays, the model's differs in what nobody reads -/
theorem StI_q {E : ME} {zn : Nat} {zM zR : MM} {zd ze : Nat} {zs : List Value} {zh : AH} {zx zy : Int32} {zQ : AH → Prop} (hi : InV zn zh) (c1 : Con E zM zd 0 0 (.ref 0 :: zs) zh (fun r h' => r = some (.int zx) ∧ h' = zh)) (c2 : Con E zR ze 0 0 (.ref 49 :: zs) zh (fun r h' => r = some (.int zy) ∧ zQ h')) (he : zy = zx) (hm : ∀ zg, zQ zg → Mscr zh zg) : StI E zn zM zR zd ze zs zh := by
  refine ⟨_, c1, fun zv g1 z1 => ⟨zx, z1.1, ?_⟩⟩
  obtain ⟨-, rfl⟩ := z1
  exact ⟨_, hi.1, c2, fun zw g2 z2 => ⟨by rw [z2.1, he], Ms_i (hm g2 z2.2) hi⟩⟩
theorem StI_r {E : ME} {zn : Nat} {zM zR : MM} {zd ze : Nat} {zs : List Value} {zh : AH} {zx zy : Int32} (hi : InV zn zh) (c1 : Con E zM zd 0 0 (.ref 0 :: zs) zh (fun r h' => r = some (.int zx) ∧ h' = zh)) (c2 : Con E zR ze 0 0 (.ref 49 :: zs) zh (fun r h' => r = some (.int zy) ∧ h' = zh)) (he : zy = zx) : StI E zn zM zR zd ze zs zh :=
  StI_q hi c1 c2 he (fun zg z => by rw [z]; exact Ms_0 zh)
theorem StJ_q {E : ME} {zn : Nat} {zM zR : MM} {zd ze : Nat} {zs : List Value} {zh : AH} {zx zy : Int64} {zQ : AH → Prop} (hi : InV zn zh) (c1 : Con E zM zd 0 0 (.ref 0 :: zs) zh (fun r h' => r = some (.long zx) ∧ h' = zh)) (c2 : Con E zR ze 0 0 (.ref 49 :: zs) zh (fun r h' => r = some (.long zy) ∧ zQ h')) (he : zy = zx) (hm : ∀ zg, zQ zg → Mscr zh zg) : StJ E zn zM zR zd ze zs zh := by
  refine ⟨_, c1, fun zv g1 z1 => ⟨zx, z1.1, ?_⟩⟩
  obtain ⟨-, rfl⟩ := z1
  exact ⟨_, hi.1, c2, fun zw g2 z2 => ⟨by rw [z2.1, he], Ms_i (hm g2 z2.2) hi⟩⟩
theorem InV_s {zn : Nat} {zh : AH} (hi : InV zn zh) : InV (zn + 1) zh := Ms_i (Ms_0 zh) hi
