theorem lbT_cong {zf zg : Nat → Int32} {zm zk : Nat} (hk : zk < zm) (h : ∀ zj, zj < zm → zf zj = zg zj) (zt zj : Nat) (hj : zj < zm) : lbT zk zf zt zj = lbT zk zg zt zj := by
  rw [lbT_eq, lbT_eq]
  unfold lbR
  rw [h zj hj, h zk hk]
theorem lbK_cong {zf zg : Nat → Int32} {zm : Nat} (h : ∀ zj, zj < zm → zf zj = zg zj) : ∀ zk, zk ≤ zm → ∀ zj, zj < zm → lbK zm zf zk zj = lbK zm zg zk zj
  | 0, _, zj, hj => by
    rw [lbK, lbK]
    exact h zj hj
  | zk + 1, hk, zj, hj => by
    rw [lbK, lbK]
    exact lbT_cong (by omega) (lbK_cong h zk (by omega)) zm zj hj
theorem bef_cong {zm : Nat} {zl zn zf zg : Nat → Int32} (h : ∀ zj, zj < zm → zl zj = zn zj) : ∀ zj, zj < zm → befF zm zl zf zj = befF zm zn zg zj := by
  unfold befF
  refine lbK_cong (fun zj hj => ?_) zm (Nat.le_refl _)
  rw [lb1_eq, lb1_eq, if_pos hj, if_pos hj]
  exact h zj hj
theorem rg_cong {zf zg : Nat → Int32} : ∀ zm, (∀ zj, zj < zm → zf zj = zg zj) → rgF zf zm = rgF zg zm
  | 0, _ => by rw [rgF, rgF]
  | zm + 1, h => by
    rw [rgF, rgF, rg_cong zm (fun zj hj => h zj (by omega)), h zm (by omega)]
theorem bh_cong {zf zg : Nat → Int32} (zt : Int32) : ∀ zm, (∀ zj, zj < zm → zf zj = zg zj) → bhF zf zt zm = bhF zg zt zm
  | 0, _ => by rw [bhF, bhF]
  | zm + 1, h => by
    rw [bhF, bhF, bh_cong zt zm (fun zj hj => h zj (by omega)), h zm (by omega)]
theorem fop_cong {zf zg : Nat → Int32} {zt : Nat} (h : zf zt = zg zt) (za zb : Int32) (zs : Nat) : fopB zf za zb zs zt = fopB zg za zb zs zt := by
  unfold fopB
  rw [h]
theorem wN_cong {zp zq : Nat → Nat → Bool} {zm : Nat} (h : ∀ zs zt, zt < zm → zp zs zt = zq zs zt) : ∀ zf zs, wN zp zm zf zs = wN zq zm zf zs
  | 0, zs => by rw [wN, wN]
  | zf + 1, zs => by
    rw [wN, wN, fb_sm_cong (fun zt ht => by rw [h zs zt ht, wN_cong h zf])]
theorem wW_cong {zf zg : Nat → Int32} {zm : Nat} (h : ∀ zj, zj < zm → zf zj = zg zj) (za zb : Int32) (zs : Nat) : wW (fopB zf za zb) zm zs = wW (fopB zg za zb) zm zs := by
  unfold wW
  exact wN_cong (fun zs zt ht => fop_cong (h zt ht) za zb zs) _ zs
