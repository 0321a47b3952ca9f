theorem cl_le {zx : Int32} {za : Nat} (h : 0 ≤ zx ∧ zx ≤ nI za) (ha : za < 2 ^ 31) : zx.toNatClampNeg ≤ za ∧ zx = nI zx.toNatClampNeg := by
  obtain ⟨zk, z1, rfl⟩ := nat_of h.1 h.2 ha
  rw [nI_clamp (by omega)]
  exact ⟨z1, rfl⟩
theorem st_fault (E : ME) {zn : Nat} {zh : AH} (hi : InV zn zh) : StI E zn mX10_fault mX11_fault 1 0 [] zh :=
  StI_r hi (cn_X10_fault E zh hi.1) (cn_X11_fault E zh hi.1) hi.2.2.2.2.2.2.2.1.symm
theorem st_torn (E : ME) {zn : Nat} {zh : AH} (hi : InV zn zh) : StI E zn mX10_torn mX11_torn 0 0 [] zh :=
  StI_r hi (cn_X10_torn E zh hi.1) (cn_X11_torn E zh hi.1) hi.2.2.2.2.2.2.1.symm
theorem st_fits (E : ME) {zn : Nat} {zh : AH} (hi : InV zn zh) (za zb zc zd : Int32) : StI E zn mX10_fits mX11_fits 1 1 [.int za, .int zb, .int zc, .int zd] zh :=
  StI_r hi (cn_X10_fits E zh za zb zc zd hi.1) (cn_X11_fits E zh za zb zc zd hi.1) rfl
theorem st_at (E : ME) {zn : Nat} {zh : AH} (hi : InV zn zh) (za : Int32) : StI E zn mX10_at mX11_at 2 2 [.int za] zh :=
  StI_r hi (cn_X10_at E zh za _ _ hi.1 hi.2.2.2.1.1) (cn_X11_at E zh za hi.1) rfl
theorem st_seams (E : ME) {zn : Nat} {zh : AH} (hi : InV zn zh) : StI E zn mX10_seams mX11_seams 4 1 [] zh :=
  StI_r hi (cn_X10_seams E zh _ _ hi.1 hi.2.2.2.1.1) (cn_X11_seams E zh hi.1) rfl
theorem st_symmetries (E : ME) {zn : Nat} {zh : AH} (hi : InV zn zh) : StI E zn mX10_symmetries mX11_symmetries 4 2 [] zh :=
  StI_r hi (cn_X10_symmetries E zh _ _ hi.1 hi.2.2.2.1.1 hi.2.2.2.1.2.2.2.2.1) (cn_X11_symmetries E zh hi.1) rfl
theorem bc_plane {zf : Nat → Int32} {zx : Int64} {zh : AH} (hF : FLz zf zx zh) {zc : Nat} (hc : zc < 6) : bcL (zh.2.2.1 27 zc) = nI (fb_ct (fun zj => decide (zf zj = nI zc)) 64) := by
  rw [bcL_bt]
  congr 1
  exact fb_ct_cong (fun zj hj => hF.2.2.1 zc hc zj hj)
theorem st_stones (E : ME) {zn : Nat} {zh : AH} (hi : InV zn zh) (za : Int32) : StI E zn mX10_stones mX11_stones 1 2 [.int za] zh := by
  refine StI_r hi (cn_X10_stones E zh za hi.1) (cn_X11_stones E zh za hi.1) ?_
  by_cases zc : 0 ≤ za ∧ za ≤ 5
  · obtain ⟨z1, z2⟩ := cl_le (za := 5) zc (by decide)
    rw [if_pos zc, if_pos zc, bc_plane hi.2.2.2.1.1 (by omega), st_N, ← z2]
  · rw [if_neg zc, if_neg zc]
theorem st_wipe (E : ME) {zn : Nat} {zh : AH} (hi : InV zn zh) : StI E zn mX10_wipe mX11_wipe 1 0 [] zh := by
  obtain ⟨zw, zT, zS, zF, ⟨zB, zq, q1, q2, q3⟩, zH, zX⟩ := hi
  refine StI_mk (cn_X10_wipe E zh zw) (wf_sI zw) (cn_X11_wipe E _ (wf_sI zw)) ?_ ⟨wf_sI (wf_sI zw), IvT_c zT ⟨rfl, rfl⟩ ⟨rfl, rfl⟩, IvS_c zS ⟨fun zk y1 y2 y3 => ?_, rfl, rfl, rfl, rfl⟩ ⟨rfl, rfl, rfl, fun zk y1 y2 => ?_⟩, IvF_c zF ⟨rfl, rfl, rfl, rfl, rfl, rfl⟩ ⟨rfl, rfl, rfl⟩, ⟨zB, 0, by omega, rfl, rfl⟩, IvH_c zH (fun zk y1 y2 => ?_) ⟨rfl, rfl, rfl⟩, IvX_c zX ⟨rfl, rfl⟩ ⟨rfl, rfl, rfl, rfl⟩⟩
  · exact q3.trans q2.symm
  · rw [sI_ne _ _ (by omega), sI_ne _ _ (by omega)]
  · rw [sI_ne _ _ (by omega), sI_ne _ _ (by omega)]
  · rw [sI_ne _ _ (by omega), sI_ne _ _ (by omega)]
theorem st_knot (E : ME) {zn : Nat} {zh : AH} (hi : InV zn zh) (za : Int32) : StI E zn mX10_knot mX11_knot 2 1 [.int za] zh := by
  obtain ⟨zw, zT, zS, zF, ⟨zB, zq, q1, q2, q3⟩, zH, zX⟩ := id hi
  have c1 := cn_X10_knot E zh za zq zw q2 q1
  rw [zB] at c1
  by_cases zc : (0 ≤ za ∧ za ≤ 999) ∧ (zq = 0 ∨ zh.2.1 68 (zq - 1) < za)
  · by_cases z4 : zq = 24
    · rw [if_pos zc, if_pos zc, if_pos z4, if_pos z4] at c1
      have c2 := cn_X11_knot E zh za zq zw q3 q1
      rw [if_pos zc, if_pos zc, if_pos z4, if_pos z4] at c2
      exact StI_mk c1 zw c2 rfl (InV_s hi)
    · rw [if_pos zc, if_pos zc, if_neg z4, if_neg z4] at c1
      have c2 := cn_X11_knot E (sI (sI zh 35 (upd (zh.2.1 68) zq za)) 34 (upd (zh.2.1 34) 1 (nI (zq + 1)))) za zq zw q3 q1
      have zc2 : (0 ≤ za ∧ za ≤ 999) ∧ (zq = 0 ∨ (sI (sI zh 35 (upd (zh.2.1 68) zq za)) 34 (upd (zh.2.1 34) 1 (nI (zq + 1)))).2.1 68 (zq - 1) < za) := zc
      rw [if_pos zc2, if_pos zc2, if_neg z4, if_neg z4] at c2
      refine StI_mk c1 zw c2 rfl ⟨zw, IvT_c zT ⟨rfl, rfl⟩ ⟨rfl, rfl⟩, IvS_c zS ⟨fun zk y1 y2 y3 => ?_, rfl, rfl, rfl, rfl⟩ ⟨rfl, rfl, rfl, fun zk y1 y2 => ?_⟩, IvF_c zF ⟨rfl, rfl, rfl, rfl, rfl, rfl⟩ ⟨rfl, rfl, rfl⟩, ⟨rfl, zq + 1, by omega, rfl, rfl⟩, IvH_c zH (fun zk y1 y2 => ?_) ⟨rfl, rfl, rfl⟩, IvX_c zX ⟨rfl, rfl⟩ ⟨rfl, rfl, rfl, rfl⟩⟩
      · rw [sI_ne _ _ (by omega), sI_ne _ _ (by omega), sI_ne _ _ (by omega), sI_ne _ _ (by omega)]
      · rw [sI_ne _ _ (by omega), sI_ne _ _ (by omega), sI_ne _ _ (by omega), sI_ne _ _ (by omega)]
      · rw [sI_ne _ _ (by omega), sI_ne _ _ (by omega), sI_ne _ _ (by omega), sI_ne _ _ (by omega)]
  · rw [if_neg zc, if_neg zc] at c1
    have c2 := cn_X11_knot E zh za zq zw q3 q1
    rw [if_neg zc, if_neg zc] at c2
    exact StI_mk c1 zw c2 rfl (InV_s hi)
theorem st_slips (E : ME) {zn : Nat} {zh : AH} (hi : InV zn zh) (za zb : Int32) : StI E zn mX10_slips mX11_slips 1 2 [.int za, .int zb] zh := by
  obtain ⟨zw, zT, zS, zF, ⟨zB, zq, q1, q2, q3⟩, zH, zX⟩ := id hi
  cases zq with
  | zero => exact StI_r hi (cn_X10_slips0 E zh za zb zw q2) (cn_X11_slips0 E zh za zb zw q3) rfl
  | succ zq =>
    have c1 := cn_X10_slips E zh za zb zq zw q2 q1
    rw [zB] at c1
    exact StI_r hi c1 (cn_X11_slips E zh za zb zq zw q3 q1) rfl
theorem st_knots (E : ME) {zn : Nat} {zh : AH} (hi : InV zn zh) : StI E zn mX10_knots mX11_knots 2 1 [] zh := by
  obtain ⟨zw, zT, zS, zF, ⟨zB, zq, q1, q2, q3⟩, zH, zX⟩ := id hi
  cases zq with
  | zero => exact StI_r hi (cn_X10_knots0 E zh zw q2) (cn_X11_knots0 E zh zw q3) rfl
  | succ zq =>
    have c1 := cn_X10_knots E zh zq zw q2 q1
    rw [zB] at c1
    exact StI_r hi c1 (cn_X11_knots E zh zq zw q3 q1) rfl
theorem st_end (E : ME) {zn : Nat} {zh : AH} (hi : InV zn zh) (za : Int32) : StI E zn mX10_end mX11_end 1 1 [.int za] zh := by
  obtain ⟨zw, ⟨zb, zq, z1, z2⟩, zS, zF, zB, zH, zX⟩ := id hi
  have c1 := cn_X10_end E zh za zw
  rw [z1.1] at c1
  by_cases zc : 0 ≤ za ∧ za ≤ nI zq
  · rw [if_pos zc, if_pos zc] at c1
    have c2 := cn_X11_end E (sI zh 1 (upd (zh.2.1 1) 1 za)) za zw
    have z21 : (sI zh 1 (upd (zh.2.1 1) 1 za)).2.1 49 1 = nI zq := z2.1
    rw [z21, if_pos zc, if_pos zc] at c2
    obtain ⟨y1, y2⟩ := cl_le zc (Nat.lt_of_le_of_lt z1.2.1 (by decide))
    refine StI_mk c1 zw c2 rfl ⟨zw, ⟨zb, za.toNatClampNeg, ⟨y2, Nat.le_trans y1 z1.2.1, fun zk hk => z1.2.2 zk (by omega)⟩, ⟨y2, Nat.le_trans y1 z1.2.1, fun zk hk => z2.2.2 zk (by omega)⟩⟩, IvS_c zS ⟨fun zk y1 y2 y3 => ?_, rfl, rfl, rfl, rfl⟩ ⟨rfl, rfl, rfl, fun zk y1 y2 => ?_⟩, IvF_c zF ⟨rfl, rfl, rfl, rfl, rfl, rfl⟩ ⟨rfl, rfl, rfl⟩, IvB_c zB ⟨rfl, rfl⟩ ⟨rfl, rfl⟩, IvH_c zH (fun zk y1 y2 => ?_) ⟨rfl, rfl, rfl⟩, IvX_c zX ⟨rfl, rfl⟩ ⟨rfl, rfl, rfl, rfl⟩⟩
    · rw [sI_ne _ _ (by omega), sI_ne _ _ (by omega)]
    · rw [sI_ne _ _ (by omega), sI_ne _ _ (by omega)]
    · rw [sI_ne _ _ (by omega), sI_ne _ _ (by omega)]
  · rw [if_neg zc, if_neg zc] at c1
    have c2 := cn_X11_end E zh za zw
    rw [z2.1, if_neg zc, if_neg zc] at c2
    exact StI_mk c1 zw c2 rfl (InV_s hi)
