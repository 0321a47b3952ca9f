def ecN (zo : Nat) : Nat := if zo < 4 then 4 * zo + 3 else if zo < 8 then 4 * (zo - 4) else if zo < 12 then 12 + (zo - 8) else zo - 12
theorem neK_at (zg : Nat → Int32) (zm : Nat) (zf : Nat → Int32) : ∀ zn, zn ≤ 4 → ∀ zj, neK zg zm zf zn zj = if zm * 16 ≤ zj ∧ zj < zm * 16 + 16 ∧ (zj - zm * 16) % 4 < zn then coF zg zm (ecN (zj - zm * 16)) else zf zj
  | 0, _, zj => by rw [neK, if_neg (by omega)]
  | zn + 1, hn, zj => by
    rw [neK]
    unfold upd
    by_cases y1 : zj = zm * 16 + zn + 12
    · rw [if_pos y1, if_pos (by omega), show zj - zm * 16 = zn + 12 by omega]
      unfold ecN
      rw [if_neg (by omega), if_neg (by omega), if_neg (by omega), show zn + 12 - 12 = zn by omega]
    · rw [if_neg y1]
      by_cases y2 : zj = zm * 16 + zn + 8
      · rw [if_pos y2, if_pos (by omega), show zj - zm * 16 = zn + 8 by omega]
        unfold ecN
        rw [if_neg (by omega), if_neg (by omega), if_pos (by omega), show 12 + (zn + 8 - 8) = 12 + zn by omega]
      · rw [if_neg y2]
        by_cases y3 : zj = zm * 16 + zn + 4
        · rw [if_pos y3, if_pos (by omega), show zj - zm * 16 = zn + 4 by omega]
          unfold ecN
          rw [if_neg (by omega), if_pos (by omega), show 4 * (zn + 4 - 4) = 4 * zn by omega]
        · rw [if_neg y3]
          by_cases y4 : zj = zm * 16 + zn + 0
          · rw [if_pos y4, if_pos (by omega), show zj - zm * 16 = zn by omega]
            unfold ecN
            rw [if_pos (by omega)]
          · rw [if_neg y4, neK_at zg zm zf zn (by omega) zj]
            by_cases z : zm * 16 ≤ zj ∧ zj < zm * 16 + 16 ∧ (zj - zm * 16) % 4 < zn
            · rw [if_pos z, if_pos (by omega)]
            · rw [if_neg z, if_neg (by omega)]
theorem neM_at (zg : Nat → Int32) (zf : Nat → Int32) : ∀ zm zj, neM zg zf zm zj = if zj < 16 * zm then coF zg (zj / 16) (ecN (zj % 16)) else zf zj
  | 0, zj => by rw [neM, if_neg (by omega)]
  | zm + 1, zj => by
    rw [neM, neK_at zg zm _ 4 (Nat.le_refl _) zj]
    by_cases z : zm * 16 ≤ zj ∧ zj < zm * 16 + 16 ∧ (zj - zm * 16) % 4 < 4
    · rw [if_pos z, if_pos (by omega), show zj / 16 = zm by omega, show zj - zm * 16 = zj % 16 by omega]
    · rw [if_neg z, neM_at zg zf zm zj]
      by_cases y : zj < 16 * zm
      · rw [if_pos y, if_pos (by omega)]
      · rw [if_neg y, if_neg (by omega)]
theorem meK_at (zg : Nat → Int32) (zx zy zm : Nat) (zf : Nat → Int32) : ∀ zn zj, meK zg zx zy zm zf zn zj = if zm * 16 ≤ zj ∧ zj < zm * 16 + zn then alF zg (zm * 16 + zx) ((zj - zm * 16) * 16 + zy) 4 else zf zj
  | 0, zj => by rw [meK, if_neg (by omega)]
  | zn + 1, zj => by
    rw [meK]
    unfold upd
    by_cases y : zj = zm * 16 + zn
    · rw [if_pos y, if_pos (by omega), show zj - zm * 16 = zn by omega]
    · rw [if_neg y, meK_at zg zx zy zm zf zn zj]
      by_cases z : zm * 16 ≤ zj ∧ zj < zm * 16 + zn
      · rw [if_pos z, if_pos (by omega)]
      · rw [if_neg z, if_neg (by omega)]
theorem meM_at (zg : Nat → Int32) (zx zy : Nat) (zf : Nat → Int32) : ∀ zm zj, meM zg zx zy zf zm zj = if zj < 16 * zm then alF zg (zj / 16 * 16 + zx) (zj % 16 * 16 + zy) 4 else zf zj
  | 0, zj => by rw [meM, if_neg (by omega)]
  | zm + 1, zj => by
    rw [meM, meK_at]
    by_cases z : zm * 16 ≤ zj ∧ zj < zm * 16 + 16
    · rw [if_pos z, if_pos (by omega), show zj / 16 = zm by omega, show zj - zm * 16 = zj % 16 by omega]
    · rw [if_neg z, meM_at zg zx zy zf zm zj]
      by_cases y : zj < 16 * zm
      · rw [if_pos y, if_pos (by omega)]
      · rw [if_neg y, if_neg (by omega)]
theorem alF_4 (zg : Nat → Int32) (za zb : Nat) : alF zg za zb 4 = 0 + seI (zg (za + 0)) (zg (zb + 0)) + seI (zg (za + 1)) (zg (zb + 1)) + seI (zg (za + 2)) (zg (zb + 2)) + seI (zg (za + 3)) (zg (zb + 3)) := by
  rw [alF, alF, alF, alF, alF]
theorem ne_e (zg zf : Nat → Int32) {zm zo : Nat} (hm : zm < 16) (ho : zo < 16) : neM zg zf 16 (zm * 16 + zo) = coF zg zm (ecN zo) := by
  rw [neM_at, if_pos (by omega), show (zm * 16 + zo) / 16 = zm by omega, show (zm * 16 + zo) % 16 = zo by omega]
theorem me_b (zg zf zk : Nat → Int32) {za zb : Nat} (ha : za < 16) (hb : zb < 16) : meM (neM zg zf 16) 0 4 zk 16 (za * 16 + zb) = 0 + seI (coF zg za 3) (coF zg zb 0) + seI (coF zg za 7) (coF zg zb 4) + seI (coF zg za 11) (coF zg zb 8) + seI (coF zg za 15) (coF zg zb 12) := by
  rw [meM_at, if_pos (by omega), show (za * 16 + zb) / 16 * 16 + 0 = za * 16 by omega, show (za * 16 + zb) % 16 * 16 + 4 = zb * 16 + 4 by omega, alF_4]
  rw [show zb * 16 + 4 + 0 = zb * 16 + 4 by omega, show zb * 16 + 4 + 1 = zb * 16 + 5 by omega, show zb * 16 + 4 + 2 = zb * 16 + 6 by omega, show zb * 16 + 4 + 3 = zb * 16 + 7 by omega]
  rw [ne_e zg zf ha (show 0 < 16 by omega), ne_e zg zf ha (show 1 < 16 by omega), ne_e zg zf ha (show 2 < 16 by omega), ne_e zg zf ha (show 3 < 16 by omega), ne_e zg zf hb (show 4 < 16 by omega), ne_e zg zf hb (show 5 < 16 by omega), ne_e zg zf hb (show 6 < 16 by omega), ne_e zg zf hb (show 7 < 16 by omega)]
  rfl
theorem me_a (zg zf zk : Nat → Int32) {za zb : Nat} (ha : za < 16) (hb : zb < 16) : meM (neM zg zf 16) 8 12 zk 16 (za * 16 + zb) = 0 + seI (coF zg za 12) (coF zg zb 0) + seI (coF zg za 13) (coF zg zb 1) + seI (coF zg za 14) (coF zg zb 2) + seI (coF zg za 15) (coF zg zb 3) := by
  rw [meM_at, if_pos (by omega), show (za * 16 + zb) / 16 * 16 + 8 = za * 16 + 8 by omega, show (za * 16 + zb) % 16 * 16 + 12 = zb * 16 + 12 by omega, alF_4]
  rw [show zb * 16 + 12 + 0 = zb * 16 + 12 by omega, show zb * 16 + 12 + 1 = zb * 16 + 13 by omega, show zb * 16 + 12 + 2 = zb * 16 + 14 by omega, show zb * 16 + 12 + 3 = zb * 16 + 15 by omega]
  rw [show za * 16 + 8 + 0 = za * 16 + 8 by omega, show za * 16 + 8 + 1 = za * 16 + 9 by omega, show za * 16 + 8 + 2 = za * 16 + 10 by omega, show za * 16 + 8 + 3 = za * 16 + 11 by omega]
  rw [ne_e zg zf ha (show 8 < 16 by omega), ne_e zg zf ha (show 9 < 16 by omega), ne_e zg zf ha (show 10 < 16 by omega), ne_e zg zf ha (show 11 < 16 by omega), ne_e zg zf hb (show 12 < 16 by omega), ne_e zg zf hb (show 13 < 16 by omega), ne_e zg zf hb (show 14 < 16 by omega), ne_e zg zf hb (show 15 < 16 by omega)]
  rfl
theorem fg_d : ∀ zt, zt < 256 → fg zt 0 = zt / 64 ∧ fg zt 1 = zt / 16 % 4 ∧ fg zt 2 = zt / 4 % 4 ∧ fg zt 3 = zt % 4 := by decide +kernel
theorem pa_co (zg : Nat → Int32) (zv zt zi zk zm : Nat) (h4 : fg zt zi < 4) (hm : zm = fg zv zi * 4 + fg zt zi) : zg (paN zv zt zi zk) = coF zg zm zk := by
  unfold coF paN pnN
  rw [show zm / 4 = fg zv zi by omega, show zm % 4 = fg zt zi by omega]
theorem wt_so (zg zf zk zl : Nat → Int32) {zv zi zj : Nat} (hv : zv < 256) (hi : zi < 16) (hj : zj < 16) : wtV (meM (neM zg zf 16) 0 4 zk 16) (meM (neM zg zf 16) 8 12 zl 16) zv zi zj = soK zg zv (zi * 16 + zj) 4 := by
  obtain ⟨d0, d1, d2, d3⟩ := fg_d (zi * 16 + zj) (by omega)
  rw [show (zi * 16 + zj) / 64 = zi / 4 by omega] at d0
  rw [show (zi * 16 + zj) / 16 % 4 = zi % 4 by omega] at d1
  rw [show (zi * 16 + zj) / 4 % 4 = zj / 4 by omega] at d2
  rw [show (zi * 16 + zj) % 4 = zj % 4 by omega] at d3
  have f0 := (fg_ok 0 (by omega) zv hv).2
  have f1 := (fg_ok 1 (by omega) zv hv).2
  have f2 := (fg_ok 2 (by omega) zv hv).2
  have f3 := (fg_ok 3 (by omega) zv hv).2
  unfold wtV
  rw [me_b zg zf zk (by omega) (by omega), me_a zg zf zl (by omega) (by omega), me_a zg zf zl (by omega) (by omega), me_b zg zf zk (by omega) (by omega)]
  have p0 : ∀ zc, zg (paN zv (zi * 16 + zj) 0 zc) = coF zg (fg zv 0 * 4 + zi / 4) zc := fun zc => pa_co zg zv _ 0 zc _ (by omega) (by rw [d0])
  have p1 : ∀ zc, zg (paN zv (zi * 16 + zj) 1 zc) = coF zg (fg zv 1 * 4 + zi % 4) zc := fun zc => pa_co zg zv _ 1 zc _ (by omega) (by rw [d1])
  have p2 : ∀ zc, zg (paN zv (zi * 16 + zj) 2 zc) = coF zg (fg zv 2 * 4 + zj / 4) zc := fun zc => pa_co zg zv _ 2 zc _ (by omega) (by rw [d2])
  have p3 : ∀ zc, zg (paN zv (zi * 16 + zj) 3 zc) = coF zg (fg zv 3 * 4 + zj % 4) zc := fun zc => pa_co zg zv _ 3 zc _ (by omega) (by rw [d3])
  simp only [soK, soH, Nat.mul_zero, Nat.zero_add, Nat.mul_one, Nat.add_zero, Nat.reduceMul, Nat.reduceAdd, p0, p1, p2, p3, Int32.zero_add]
  ac_rfl
theorem seI_01 (za zb : Int32) : seI za zb = nI 0 ∨ seI za zb = nI 1 := by
  unfold seI
  by_cases z : ¬ za = -1 ∧ za = zb
  · rw [if_pos z]; exact Or.inr rfl
  · rw [if_neg z]; exact Or.inl rfl
theorem seI_n (za zb : Int32) : ∃ zk, zk ≤ 1 ∧ seI za zb = nI zk := by
  rcases seI_01 za zb with z | z
  · exact ⟨0, by omega, z⟩
  · exact ⟨1, by omega, z⟩
theorem soH_n (zg : Nat → Int32) (zv zt zk : Nat) {za : Int32} {zm : Nat} (h : ∃ zc, zc ≤ zm ∧ za = nI zc) : ∀ zi, ∃ zc, zc ≤ zm + 2 * zi ∧ soH zg zv zt zk za zi = nI zc
  | 0 => by rw [soH]; exact h
  | zi + 1 => by
    obtain ⟨zc, y1, y2⟩ := soH_n zg zv zt zk h zi
    rw [soH, y2]
    obtain ⟨zu, u1, u2⟩ := seI_n (zg (paN zv zt (2 * zi) (4 * zk + 3))) (zg (paN zv zt (2 * zi + 1) (4 * zk)))
    obtain ⟨zx, x1, x2⟩ := seI_n (zg (paN zv zt zi (12 + zk))) (zg (paN zv zt (2 + zi) zk))
    rw [u2, x2, nI_add, nI_add]
    exact ⟨zc + zu + zx, by omega, rfl⟩
theorem soK_n (zg : Nat → Int32) (zv zt : Nat) : ∀ zk, ∃ zc, zc ≤ 4 * zk ∧ soK zg zv zt zk = nI zc
  | 0 => by rw [soK]; exact ⟨0, by omega, rfl⟩
  | zk + 1 => by
    obtain ⟨zc, y1, y2⟩ := soH_n zg zv zt zk (soK_n zg zv zt zk) 2
    rw [soK]
    exact ⟨zc, by omega, y2⟩
theorem soK_0 (zg : Nat → Int32) (zv zt : Nat) : 0 ≤ soK zg zv zt 4 := by
  obtain ⟨zc, y1, y2⟩ := soK_n zg zv zt 4
  rw [y2]
  exact nI_pos' (by omega)
/-- the class's four numbers against the model's three -/
def TGz (zs : Int32 × Int32 × Int32 × Int32) (zm : Int32 × Int32 × Int32) : Prop := zs.1 = zm.2.1 ∧ (zm.2.1 = -1 ∨ (0 ≤ zm.2.1 ∧ ∃ zp zt, zp < 256 ∧ zt < 256 ∧ zs.2.1 = nI zp ∧ zs.2.2.1 = nI zt ∧ zm.1 = nI (256 * zp + zt) ∧ zs.2.2.2 = zm.2.2))
theorem TG_s {zs : Int32 × Int32 × Int32 × Int32} {zm : Int32 × Int32 × Int32} (h : TGz zs zm) {zv : Int32} (hv : 0 ≤ zv) {zp zt : Nat} (hp : zp < 256) (ht : zt < 256) : TGz (wtS zs zv (nI zp) (nI zt)) (if zm.2.1 < zv then nI (256 * zp + zt) else zm.1, if zm.2.1 < zv then zv else zm.2.1, if zm.2.1 < zv then 1 else if zv = zm.2.1 then zm.2.2 + 1 else zm.2.2) ∧ 0 ≤ (if zm.2.1 < zv then zv else zm.2.1) := by
  obtain ⟨h1, h2⟩ := h
  unfold wtS
  by_cases z : zm.2.1 < zv
  · have z2 : ¬ zv ≤ zs.1 := by rw [h1, i_le2]; exact z
    rw [if_pos z, if_pos z, if_pos z, if_neg z2]
    exact ⟨⟨rfl, Or.inr ⟨hv, zp, zt, hp, ht, rfl, rfl, rfl, rfl⟩⟩, hv⟩
  · have z2 : zv ≤ zs.1 := by rw [h1]; exact (i_lt2 _ _).mp z
    have z3 : ¬ zm.2.1 = -1 := fun y => z (by
      rw [y]
      rw [i_le] at hv
      rw [i_lt]
      have y1 : (0 : Int32).toInt = 0 := rfl
      have y2 : (-1 : Int32).toInt = -1 := by decide
      omega)
    have h3 := h2.resolve_left z3
    rw [if_neg z, if_neg z, if_neg z, if_pos z2]
    refine ⟨?_, h3.1⟩
    by_cases z4 : zv = zs.1
    · rw [if_pos z4, if_pos (z4.trans h1)]
      refine ⟨h1, Or.inr ⟨h3.1, ?_⟩⟩
      obtain ⟨qp, qt, x1, x2, x3, x4, x5, x6⟩ := h3.2
      exact ⟨qp, qt, x1, x2, x3, x4, x5, by rw [x6]⟩
    · rw [if_neg z4, if_neg (fun y => z4 (y.trans h1.symm))]
      exact ⟨h1, Or.inr h3⟩
theorem TG_j {zg zk : Nat → Int32} {zf : Nat → Int32} {zv zi : Nat} (hv : zv < 256) (hi : zi < 16) (hw : ∀ zj, zj < 16 → wtV zg zk zv zi zj = soK zf zv (zi * 16 + zj) 4) {zs : Int32 × Int32 × Int32 × Int32} {zm : Int32 × Int32 × Int32} (h : TGz zs (tgT (fun zt => soK zf zv zt 4) zv zm (zi * 16))) : ∀ zj, zj ≤ 16 → TGz (wtJ zg zk zv zi zs zj) (tgT (fun zt => soK zf zv zt 4) zv zm (zi * 16 + zj)) ∧ (0 < zj → 0 ≤ (tgT (fun zt => soK zf zv zt 4) zv zm (zi * 16 + zj)).2.1)
  | 0, _ => by
    rw [wtJ]
    exact ⟨h, fun z => absurd z (Nat.lt_irrefl _)⟩
  | zj + 1, hj => by
    have ih := (TG_j hv hi hw h zj (by omega)).1
    rw [wtJ, hw zj (by omega), show zi * 16 + (zj + 1) = (zi * 16 + zj) + 1 by omega, tgT]
    have z := TG_s ih (soK_0 zf zv (zi * 16 + zj)) hv (show zi * 16 + zj < 256 by omega)
    exact ⟨z.1, fun _ => z.2⟩
theorem TG_i {zg zk : Nat → Int32} {zf : Nat → Int32} {zv : Nat} (hv : zv < 256) (hw : ∀ zi zj, zi < 16 → zj < 16 → wtV zg zk zv zi zj = soK zf zv (zi * 16 + zj) 4) {zs : Int32 × Int32 × Int32 × Int32} {zm : Int32 × Int32 × Int32} (h : TGz zs zm) : ∀ zi, zi ≤ 16 → TGz (wtI zg zk zv zs zi) (tgT (fun zt => soK zf zv zt 4) zv zm (zi * 16)) ∧ (0 < zi → 0 ≤ (tgT (fun zt => soK zf zv zt 4) zv zm (zi * 16)).2.1)
  | 0, _ => by
    rw [wtI, Nat.zero_mul, tgT]
    exact ⟨h, fun z => absurd z (Nat.lt_irrefl _)⟩
  | zi + 1, hi => by
    have ih := (TG_i hv hw h zi (by omega)).1
    have z := TG_j hv (by omega) (fun zj hj => hw zi zj (by omega) hj) ih 16 (Nat.le_refl _)
    rw [wtI, show (zi + 1) * 16 = zi * 16 + 16 by omega]
    exact ⟨z.1, fun _ => z.2 (by omega)⟩
theorem unl_27 : unl 27 := by decide +kernel
theorem TG_p {zg zk : Nat → Int32} {zf : Nat → Int32} (hw : ∀ zv zi zj, zv < 256 → zi < 16 → zj < 16 → wtV zg zk zv zi zj = soK zf zv (zi * 16 + zj) 4) {zs : Int32 × Int32 × Int32 × Int32} (h : zs.1 = -1) : ∀ zv, zv ≤ 256 → TGz (seW zg zk zs zv) (tgP (fun zp zt => soK zf zp zt 4) zv) ∧ (27 < zv → 0 ≤ (tgP (fun zp zt => soK zf zp zt 4) zv).2.1)
  | 0, _ => by
    rw [seW, tgP]
    exact ⟨⟨h, Or.inl rfl⟩, fun z => absurd z (Nat.not_lt_zero _)⟩
  | zv + 1, hv => by
    obtain ⟨i1, i2⟩ := TG_p hw h zv (by omega)
    rw [seW]
    by_cases z : unl zv
    · rw [if_pos z, tgP_u z]
      have y := TG_i (by omega) (fun zi zj y1 y2 => hw zv zi zj (by omega) y1 y2) i1 16 (Nat.le_refl _)
      exact ⟨y.1, fun _ => y.2 (by omega)⟩
    · rw [if_neg z, tgP_n z]
      refine ⟨i1, fun y => i2 ?_⟩
      rcases Nat.lt_or_ge 27 zv with q | q
      · exact q
      · exfalso
        apply z
        rw [show zv = 27 by omega]
        exact unl_27
theorem TG_end {zs : Int32 × Int32 × Int32 × Int32} {zm : Int32 × Int32 × Int32} (h : TGz zs zm) (h0 : 0 ≤ zm.2.1) : zs.1 = zm.2.1 ∧ zs.2.1 = zm.1 / 256 ∧ zs.2.2.1 = zm.1 - zm.1 / 256 * 256 ∧ zs.2.2.2 = zm.2.2 := by
  obtain ⟨h1, h2⟩ := h
  rcases h2 with z | ⟨-, zp, zt, y1, y2, y3, y4, y5, y6⟩
  · rw [z] at h0
    exact absurd h0 (by decide)
  · have e1 : nI (256 * zp + zt) / 256 = nI zp := by
      have := pk_div (a := 256 * zp + zt) (d := 256) (by omega) (by decide) (by decide)
      rw [show (256 * zp + zt) / 256 = zp by omega] at this
      exact this
    have e2 : nI (256 * zp + zt) - nI zp * 256 = nI zt := by
      have := pk_rem (a := 256 * zp + zt) (d := 256) (by omega) (by decide) (by decide)
      rw [show (256 * zp + zt) % 256 = zt by omega] at this
      rw [← e1]
      exact this
    rw [y5, e1, e2]
    exact ⟨h1, y3, y4, y6⟩
theorem pn_lt {zp zc : Nat} (hp : zp < 4) (hc : zc < 16) : pnN zp zc < 64 := by
  unfold pnN
  omega
theorem neK_cong {zg zk : Nat → Int32} (h : ∀ zj, zj < 64 → zg zj = zk zj) {zm : Nat} (hm : zm < 16) {zc : Nat} (hc : zc < 16) : coF zg zm zc = coF zk zm zc := by
  unfold coF
  exact h _ (pn_lt (by omega) (sr4 (zm % 4) (by omega) zc hc).2)
theorem wtR_r (zr : Nat → Int32) (zs : Int32 × Int32 × Int32 × Int32) : wtR zr zs 3 = zs.1 ∧ wtR zr zs 4 = zs.2.1 ∧ wtR zr zs 5 = zs.2.2.1 ∧ wtR zr zs 6 = zs.2.2.2 := ⟨rfl, rfl, rfl, rfl⟩
theorem seH_36 (zh : AH) : (seH zh).2.1 36 = wtR ((seG zh).2.1 36) (seW ((seG zh).2.1 37) ((seG zh).2.1 38) (wt0 (seG zh)) 256) := by
  unfold seH
  exact sI_at _ _ _
theorem se_row {zh : AH} {zf : Nat → Int32} (hF : ∀ zj, zj < 64 → zh.2.1 26 zj = zf zj) : PBw zf (seH zh) := by
  have h0 : (wt0 (seG zh)).1 = -1 := rfl
  have z1 := TG_p (zf := zh.2.1 26) (zg := (seG zh).2.1 37) (zk := (seG zh).2.1 38) (fun zv zi zj y1 y2 y3 => wt_so (zh.2.1 26) (zh.2.1 39) (zh.2.1 37) (zh.2.1 38) y1 y2 y3) h0 256 (Nat.le_refl _)
  have z2 := TG_end z1.1 (z1.2 (by omega))
  refine PBw_f hF ?_
  obtain ⟨r3, r4, r5, r6⟩ := wtR_r ((seG zh).2.1 36) (seW ((seG zh).2.1 37) ((seG zh).2.1 38) (wt0 (seG zh)) 256)
  unfold PBw
  rw [seH_36, r3, r4, r5, r6]
  exact z2
theorem InV_to {zn : Nat} {zh : AH} (hi : InV zn zh) : InV zn (toH zh) ∧ PBw ((toH zh).2.1 69) (toH zh) := by
  obtain ⟨zw, zT, zS, zF, zB, zH, zX⟩ := id hi
  obtain ⟨zc, q1, q2, q3, q4⟩ := zF.2.2.2.2.2
  unfold toH
  by_cases z : zh.2.1 36 7 = zh.2.1 25 7
  · rw [if_pos z]
    exact ⟨hi, q4 z⟩
  · rw [if_neg z]
    have zP : PBw (zh.2.1 69) (seH zh) := se_row zF.1.1
    have zr : ∀ zk, zk ≠ 36 → zk ≠ 37 → zk ≠ 38 → zk ≠ 39 → (seH zh).2.1 zk = zh.2.1 zk := fun zk a1 a2 a3 a4 => by
      unfold seH
      rw [sI_ne _ _ a1]
      unfold seG
      rw [sI_ne _ _ a3, sI_ne _ _ a2, sI_ne _ _ a4, sI_ne _ _ a1]
    have e69 : (seH zh).2.1 69 = zh.2.1 69 := zr 69 (by omega) (by omega) (by omega) (by omega)
    have e25 : (seH zh).2.1 25 = zh.2.1 25 := zr 25 (by omega) (by omega) (by omega) (by omega)
    have e49 : (seH zh).2.1 49 = zh.2.1 49 := zr 49 (by omega) (by omega) (by omega) (by omega)
    have e367 : (seH zh).2.1 36 7 = zh.2.1 25 7 := rfl
    refine ⟨⟨zw, IvT_c zT ⟨?_, ?_⟩ ⟨?_, ?_⟩, IvS_c zS ⟨?_, ?_, rfl, rfl, rfl⟩ ⟨?_, ?_, ?_, ?_⟩, ⟨?_, ?_, ?_, ?_, ?_, ?_⟩, IvB_c zB ⟨?_, ?_⟩ ⟨?_, ?_⟩, IvH_c zH ?_ ⟨?_, ?_, ?_⟩, IvX_c zX ⟨?_, ?_⟩ ⟨?_, ?_, ?_, ?_⟩⟩, ?_⟩
    · rw [zr 1 (by omega) (by omega) (by omega) (by omega)]
    · exact zr 2 (by omega) (by omega) (by omega) (by omega)
    · rw [e49]
    · exact zr 50 (by omega) (by omega) (by omega) (by omega)
    · exact fun zk y1 y2 y3 => zr zk (by omega) (by omega) (by omega) (by omega)
    · rw [zr 30 (by omega) (by omega) (by omega) (by omega)]
    · rw [e49]
    · rw [e49]
    · rw [e49]
    · exact fun zk y1 y2 => zr zk (by omega) (by omega) (by omega) (by omega)
    · rw [e69]
      exact FLz_c (zr 26 (by omega) (by omega) (by omega) (by omega)) rfl rfl zF.1
    · rw [e25]
      exact zF.2.1
    · rw [e49, e25]
      exact zF.2.2.1
    · rw [e69]
      exact zF.2.2.2.1
    · exact IMz_c (zr 28 (by omega) (by omega) (by omega) (by omega)) zF.2.2.2.2.1
    · rw [e69]
      refine ⟨zc, q1, by rw [e25]; exact q2, Or.inr ⟨zc, Nat.le_refl _, by rw [e367]; exact q2⟩, fun _ => zP⟩
    · exact zr 35 (by omega) (by omega) (by omega) (by omega)
    · rw [zr 34 (by omega) (by omega) (by omega) (by omega)]
    · exact zr 68 (by omega) (by omega) (by omega) (by omega)
    · rw [e49]
    · exact fun zk y1 y2 => zr zk (by omega) (by omega) (by omega) (by omega)
    · exact zr 73 (by omega) (by omega) (by omega) (by omega)
    · exact zr 74 (by omega) (by omega) (by omega) (by omega)
    · exact zr 75 (by omega) (by omega) (by omega) (by omega)
    · rw [zr 0 (by omega) (by omega) (by omega) (by omega)]
    · rw [zr 19 (by omega) (by omega) (by omega) (by omega)]
    · rw [e49]
    · rw [e49]
    · exact zr 51 (by omega) (by omega) (by omega) (by omega)
    · exact zr 52 (by omega) (by omega) (by omega) (by omega)
    · rw [e69]
      exact zP
theorem st_together (E : ME) {zn : Nat} {zh : AH} (hi : InV zn zh) (zv : Int32) : StI E zn mX10_together mX11_together 5 3 [.int zv] zh := by
  have c1 := cn_X10_together E zh zv hi.1
  by_cases zC : 0 ≤ zv ∧ zv ≤ 3
  · rw [if_pos zC, if_pos zC] at c1
    obtain ⟨z1, z2, z3, z4, z5⟩ := InV_to hi
    have c2 := cn_X11_together E (toH zh) zv z1.1
    rw [if_pos zC, ← z2, ← z4, ← z3, ← z5] at c2
    exact StI_h c1 z1 c2 rfl (fun zg z => by rw [z]; exact Ms_0 _)
  · rw [if_neg zC, if_neg zC] at c1
    have c2 := cn_X11_together E zh zv hi.1
    rw [if_neg zC] at c2
    exact StI_r hi c1 c2 rfl
