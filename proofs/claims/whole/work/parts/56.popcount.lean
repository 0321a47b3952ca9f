theorem dg_cut {zb zn : Nat} (zf : Nat → Nat) : dgL zb zn zf = dgL zb zn (fun zk => if zk < zn then zf zk else 0) := dg_cong _ (fun zk hk => by rw [if_pos hk])
theorem step_3 {zm zn : Nat} : (dgL 4 (2 * zm) (pc2 zn) + dgL 4 (2 * zm) (pc2 zn) / 16) &&& mkN 4 zm = dgL 8 zm (pc3 zn) := by
  have hb : ∀ zk, (fun zk => if zk < 2 * zm then pc2 zn zk else 0) zk ≤ 4 := fun zk => by
    show (if zk < 2 * zm then pc2 zn zk else 0) ≤ 4
    split
    · exact pc2_b zn zk
    · decide
  rw [show (16 : Nat) = 2 ^ 4 from rfl, dg_cut, dg_next (fun zk => Nat.lt_of_le_of_lt (hb zk) (by decide)) (fun zk hk => by rw [if_neg (by omega)]), ← dg_add, dg_mask zm _ (fun zk => by have h1 := hb zk; have h2 := hb (zk + 1); show (if zk < 2 * zm then pc2 zn zk else 0) + (if zk + 1 < 2 * zm then pc2 zn (zk + 1) else 0) < 16; dsimp only at h1 h2; omega)]
  refine dg_cong zm (fun zk hk => ?_)
  show (if 2 * zk < 2 * zm then pc2 zn (2 * zk) else 0) + (if 2 * zk + 1 < 2 * zm then pc2 zn (2 * zk + 1) else 0) = pc3 zn zk
  rw [if_pos (by omega), if_pos (by omega)]
  rfl
/-- a sum of digits with those some places on -/
theorem dg_fold {zb zn zs zB : Nat} {zf : Nat → Nat} (hb : ∀ zk, zf zk ≤ zB) (hB : zB < 2 ^ zb) (h0 : ∀ zk, zn ≤ zk → zf zk = 0) : dgL zb zn zf + dgL zb zn zf / 2 ^ (zb * zs) = dgL zb zn (fun zk => zf zk + zf (zk + zs)) := by
  rw [dg_shift zs (fun zk => Nat.lt_of_le_of_lt (hb zk) hB) h0, dg_add]
def pcT (zm zn : Nat) (zk : Nat) : Nat := if zk < zm then pc3 zn zk else 0
theorem pcT_b (zm zn zk : Nat) : pcT zm zn zk ≤ 8 := by
  unfold pcT
  split
  · exact pc3_b zn zk
  · decide
theorem pcT_0 {zm zn zk : Nat} (h : zm ≤ zk) : pcT zm zn zk = 0 := if_neg (by omega)
def pA1 (zm zn zk : Nat) : Nat := pcT zm zn zk + pcT zm zn (zk + 1)
def pA2 (zm zn zk : Nat) : Nat := pA1 zm zn zk + pA1 zm zn (zk + 2)
def pA3 (zm zn zk : Nat) : Nat := pA2 zm zn zk + pA2 zm zn (zk + 4)
theorem pA1_b (zm zn zk : Nat) : pA1 zm zn zk ≤ 16 := by unfold pA1; have h1 := pcT_b zm zn zk; have h2 := pcT_b zm zn (zk + 1); omega
theorem pA2_b (zm zn zk : Nat) : pA2 zm zn zk ≤ 32 := by unfold pA2; have h1 := pA1_b zm zn zk; have h2 := pA1_b zm zn (zk + 2); omega
theorem pA3_b (zm zn zk : Nat) : pA3 zm zn zk ≤ 64 := by unfold pA3; have h1 := pA2_b zm zn zk; have h2 := pA2_b zm zn (zk + 4); omega
theorem pA1_0 {zm zn zk : Nat} (h : zm ≤ zk) : pA1 zm zn zk = 0 := by unfold pA1; rw [pcT_0 h, pcT_0 (by omega)]
theorem pA2_0 {zm zn zk : Nat} (h : zm ≤ zk) : pA2 zm zn zk = 0 := by unfold pA2; rw [pA1_0 h, pA1_0 (by omega)]
theorem st_a (zm zn : Nat) : dgL 8 zm (pc3 zn) + dgL 8 zm (pc3 zn) / 2 ^ 8 = dgL 8 zm (pA1 zm zn) := by
  have e0 : dgL 8 zm (pc3 zn) = dgL 8 zm (pcT zm zn) := dg_cut _
  rw [e0]
  exact dg_fold (zb := 8) (zs := 1) (zB := 8) (pcT_b zm zn) (by decide) (fun zk hk => pcT_0 hk)
theorem st_b (zm zn : Nat) : dgL 8 zm (pA1 zm zn) + dgL 8 zm (pA1 zm zn) / 2 ^ 16 = dgL 8 zm (pA2 zm zn) := dg_fold (zb := 8) (zs := 2) (zB := 16) (pA1_b zm zn) (by decide) (fun zk hk => pA1_0 hk)
theorem st_c (zm zn : Nat) : dgL 8 zm (pA2 zm zn) + dgL 8 zm (pA2 zm zn) / 2 ^ 32 = dgL 8 zm (pA3 zm zn) := dg_fold (zb := 8) (zs := 4) (zB := 32) (pA2_b zm zn) (by decide) (fun zk hk => pA2_0 hk)
theorem low_128 {zm : Nat} {zf : Nat → Nat} (hm : 0 < zm) (h : zf 0 ≤ 64) : dgL 8 zm zf % 128 = zf 0 := by
  have h1 := dg_low (zb := 8) (zf := zf) (show zf 0 < 2 ^ 8 by omega) hm
  rw [show (2 : Nat) ^ 8 = 256 from rfl] at h1
  omega
theorem low_64 {zm : Nat} {zf : Nat → Nat} (hm : 0 < zm) (h : zf 0 ≤ 32) : dgL 8 zm zf % 64 = zf 0 := by
  have h1 := dg_low (zb := 8) (zf := zf) (show zf 0 < 2 ^ 8 by omega) hm
  rw [show (2 : Nat) ^ 8 = 256 from rfl] at h1
  omega
theorem sum_8 (zf : Nat → Nat) : fb_sm zf 8 = zf 0 + zf 1 + zf 2 + zf 3 + zf 4 + zf 5 + zf 6 + zf 7 := by
  simp only [fb_sm_succ, show fb_sm zf 0 = 0 from rfl, Nat.zero_add]
theorem sum_4 (zf : Nat → Nat) : fb_sm zf 4 = zf 0 + zf 1 + zf 2 + zf 3 := by
  simp only [fb_sm_succ, show fb_sm zf 0 = 0 from rfl, Nat.zero_add]
theorem pA3_s (zn : Nat) : pA3 8 zn 0 = fb_sm (pc3 zn) 8 := by
  have q : ∀ zk, zk < 8 → pcT 8 zn zk = pc3 zn zk := fun zk hk => if_pos hk
  rw [sum_8, ← q 0 (by decide), ← q 1 (by decide), ← q 2 (by decide), ← q 3 (by decide), ← q 4 (by decide), ← q 5 (by decide), ← q 6 (by decide), ← q 7 (by decide)]
  show ((pcT 8 zn 0 + pcT 8 zn 1) + (pcT 8 zn 2 + pcT 8 zn 3)) + ((pcT 8 zn 4 + pcT 8 zn 5) + (pcT 8 zn 6 + pcT 8 zn 7)) = _
  omega
theorem pA2_s (zn : Nat) : pA2 4 zn 0 = fb_sm (pc3 zn) 4 := by
  have q : ∀ zk, zk < 4 → pcT 4 zn zk = pc3 zn zk := fun zk hk => if_pos hk
  rw [sum_4, ← q 0 (by decide), ← q 1 (by decide), ← q 2 (by decide), ← q 3 (by decide)]
  show (pcT 4 zn 0 + pcT 4 zn 1) + (pcT 4 zn 2 + pcT 4 zn 3) = _
  omega
theorem pc_sum (zn zm : Nat) : fb_sm (pc3 zn) zm = fb_ct zn.testBit (2 * (2 * (2 * zm))) := by
  rw [← sm_ct, ← sm_pair, ← sm_pair, ← sm_pair]
  rfl
theorem bcL_N {zn : Nat} (h : zn < 2 ^ 64) : bcL (lN zn) = nI (fb_ct zn.testBit 64) := by
  have s1 := step_1 (zm := 32) h
  have m1 : mkN 1 32 = 6148914691236517205 := by decide +kernel
  have m2 : mkN 2 16 = 3689348814741910323 := by decide +kernel
  have m3 : mkN 4 8 = 1085102592571150095 := by decide +kernel
  have l1 : dgL 2 32 (pc1 zn) < 2 ^ 64 := dg_lt 32 _ (fun zk => by have := pc1_b zn zk; omega)
  have l2 : dgL 4 16 (pc2 zn) < 2 ^ 64 := dg_lt 16 _ (fun zk => by have := pc2_b zn zk; omega)
  have l3 : dgL 8 8 (pc3 zn) < 2 ^ 64 := dg_lt 8 _ (fun zk => by have := pc3_b zn zk; omega)
  have e1 : bcL1 (lN zn) = lN (dgL 2 32 (pc1 zn)) := by
    have z1 : bcL1 (lN zn) = lN zn - (lN (zn / 2 ^ 1) &&& lN 6148914691236517205) := congrArg (fun zx => lN zn - (zx &&& 6148914691236517205)) (wb_shr (k := 1) h (by decide))
    rw [z1, fb_andL, ← m1, Nat.pow_one, lN_sub s1.1, s1.2]
  have e2 : bcL2 (lN (dgL 2 32 (pc1 zn))) = lN (dgL 4 16 (pc2 zn)) := by
    have z1 : bcL2 (lN (dgL 2 32 (pc1 zn))) = (lN (dgL 2 32 (pc1 zn)) &&& lN 3689348814741910323) + (lN (dgL 2 32 (pc1 zn) / 2 ^ 2) &&& lN 3689348814741910323) := congrArg (fun zx => (lN (dgL 2 32 (pc1 zn)) &&& 3689348814741910323) + (zx &&& 3689348814741910323)) (wb_shr (k := 2) l1 (by decide))
    rw [z1, fb_andL, fb_andL, ← m2, lN_add]
    exact congrArg lN (step_2 (zm := 16) (zn := zn))
  have e3 : bcL3 (lN (dgL 4 16 (pc2 zn))) = lN (dgL 8 8 (pc3 zn)) := by
    have z1 : bcL3 (lN (dgL 4 16 (pc2 zn))) = (lN (dgL 4 16 (pc2 zn)) + lN (dgL 4 16 (pc2 zn) / 2 ^ 4)) &&& lN 1085102592571150095 := congrArg (fun zx => (lN (dgL 4 16 (pc2 zn)) + zx) &&& 1085102592571150095) (wb_shr (k := 4) l2 (by decide))
    rw [z1, lN_add, fb_andL, ← m3]
    exact congrArg lN (step_3 (zm := 8) (zn := zn))
  have fs : ∀ (zk zx : Nat), zk < 64 → zx < 2 ^ 64 → bcLs (nI zk) (lN zx) = lN (zx + zx / 2 ^ zk) := fun zk zx hk hx => by
    have z1 : bcLs (nI zk) (lN zx) = lN zx + lN (zx / 2 ^ zk) := congrArg (fun zy => lN zx + zy) (wb_shr (k := zk) hx hk)
    rw [z1, lN_add]
  have k1 : dgL 8 8 (pA1 8 zn) < 2 ^ 64 := dg_lt 8 _ (fun zk => by have := pA1_b 8 zn zk; omega)
  have k2 : dgL 8 8 (pA2 8 zn) < 2 ^ 64 := dg_lt 8 _ (fun zk => by have := pA2_b 8 zn zk; omega)
  have g8 : bcLs 8 (lN (dgL 8 8 (pc3 zn))) = lN (dgL 8 8 (pA1 8 zn)) := (fs 8 _ (by decide) l3).trans (congrArg lN (st_a 8 zn))
  have g16 : bcLs 16 (lN (dgL 8 8 (pA1 8 zn))) = lN (dgL 8 8 (pA2 8 zn)) := (fs 16 _ (by decide) k1).trans (congrArg lN (st_b 8 zn))
  have g32 : bcLs 32 (lN (dgL 8 8 (pA2 8 zn))) = lN (dgL 8 8 (pA3 8 zn)) := (fs 32 _ (by decide) k2).trans (congrArg lN (st_c 8 zn))
  unfold bcL
  rw [e1, e2, e3, g8, g16, g32, lN_i]
  have m7 : nI (dgL 8 8 (pA3 8 zn)) &&& 127 = nI (dgL 8 8 (pA3 8 zn) % 2 ^ 7) := fa_mask (dgL 8 8 (pA3 8 zn)) 7
  rw [m7]
  exact congrArg nI ((low_128 (by decide) (pA3_b 8 zn 0)).trans ((pA3_s zn).trans (pc_sum zn 8)))
theorem bcL_bt (zx : Int64) : bcL zx = nI (fb_ct (lbt zx) 64) := by
  obtain ⟨zn, hn, rfl⟩ := wb_of zx
  rw [bcL_N hn]
  exact congrArg nI (fb_ct_cong (fun zk hk => (lb_N hk).symm))
theorem bcI_N {zn : Nat} (h : zn < 2 ^ 31) : bcI (nI zn) = nI (fb_ct zn.testBit 32) := by
  have s1 := step_1 (zm := 16) (zn := zn) (by omega)
  have m1 : mkN 1 16 = 1431655765 := by decide +kernel
  have m2 : mkN 2 8 = 858993459 := by decide +kernel
  have m3 : mkN 4 4 = 252645135 := by decide +kernel
  have l1 : dgL 2 16 (pc1 zn) < 2 ^ 32 := dg_lt 16 _ (fun zk => by have := pc1_b zn zk; omega)
  have l2 : dgL 4 8 (pc2 zn) < 2 ^ 32 := dg_lt 8 _ (fun zk => by have := pc2_b zn zk; omega)
  have l3 : dgL 8 4 (pc3 zn) < 2 ^ 32 := dg_lt 4 _ (fun zk => by have := pc3_b zn zk; omega)
  have us : ∀ (zk zx : Nat), zk < 32 → zx < 2 ^ 32 → (Int32.toUInt32 (nI zx) >>> (Int32.toUInt32 (nI zk) &&& Int32.toUInt32 31)).toInt32 = nI (zx / 2 ^ zk) := fun zk zx hk hx => pk_ushrN hx (nI zk) zk (s_u zk hk)
  have e1 : bcI1 (nI zn) = nI (dgL 2 16 (pc1 zn)) := by
    have z1 : bcI1 (nI zn) = nI zn - (nI (zn / 2 ^ 1) &&& nI 1431655765) := congrArg (fun zx => nI zn - (zx &&& 1431655765)) (us 1 zn (by decide) (by omega))
    rw [z1, fa_and, ← m1, Nat.pow_one, pk_sub s1.1, s1.2]
  have e2 : bcI2 (nI (dgL 2 16 (pc1 zn))) = nI (dgL 4 8 (pc2 zn)) := by
    have z1 : bcI2 (nI (dgL 2 16 (pc1 zn))) = (nI (dgL 2 16 (pc1 zn)) &&& nI 858993459) + (nI (dgL 2 16 (pc1 zn) / 2 ^ 2) &&& nI 858993459) := congrArg (fun zx => (nI (dgL 2 16 (pc1 zn)) &&& 858993459) + (zx &&& 858993459)) (us 2 _ (by decide) l1)
    rw [z1, fa_and, fa_and, ← m2, nI_add]
    exact congrArg nI (step_2 (zm := 8) (zn := zn))
  have e3 : bcI3 (nI (dgL 4 8 (pc2 zn))) = nI (dgL 8 4 (pc3 zn)) := by
    have z1 : bcI3 (nI (dgL 4 8 (pc2 zn))) = (nI (dgL 4 8 (pc2 zn)) + nI (dgL 4 8 (pc2 zn) / 2 ^ 4)) &&& nI 252645135 := congrArg (fun zx => (nI (dgL 4 8 (pc2 zn)) + zx) &&& 252645135) (us 4 _ (by decide) l2)
    rw [z1, nI_add, fa_and, ← m3]
    exact congrArg nI (step_3 (zm := 4) (zn := zn))
  have fs : ∀ (zk zx : Nat), zk < 32 → zx < 2 ^ 32 → bcIs (nI zk) (nI zx) = nI (zx + zx / 2 ^ zk) := fun zk zx hk hx => by
    have z1 : bcIs (nI zk) (nI zx) = nI zx + nI (zx / 2 ^ zk) := congrArg (fun zy => nI zx + zy) (us zk zx hk hx)
    rw [z1, nI_add]
  have k1 : dgL 8 4 (pA1 4 zn) < 2 ^ 32 := dg_lt 4 _ (fun zk => by have := pA1_b 4 zn zk; omega)
  have g8 : bcIs 8 (nI (dgL 8 4 (pc3 zn))) = nI (dgL 8 4 (pA1 4 zn)) := (fs 8 _ (by decide) l3).trans (congrArg nI (st_a 4 zn))
  have g16 : bcIs 16 (nI (dgL 8 4 (pA1 4 zn))) = nI (dgL 8 4 (pA2 4 zn)) := (fs 16 _ (by decide) k1).trans (congrArg nI (st_b 4 zn))
  unfold bcI
  rw [e1, e2, e3, g8, g16]
  have m6 : nI (dgL 8 4 (pA2 4 zn)) &&& 63 = nI (dgL 8 4 (pA2 4 zn) % 2 ^ 6) := fa_mask (dgL 8 4 (pA2 4 zn)) 6
  rw [m6]
  exact congrArg nI ((low_64 (by decide) (pA2_b 4 zn 0)).trans ((pA2_s zn).trans (pc_sum zn 4)))
