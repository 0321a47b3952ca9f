def dgL (zb : Nat) : Nat → (Nat → Nat) → Nat
  | 0, _ => 0
  | zn + 1, zf => zf 0 + 2 ^ zb * dgL zb zn (fun zk => zf (zk + 1))
theorem dg_cong {zb : Nat} : ∀ (zn : Nat) {zf zg : Nat → Nat}, (∀ zk, zk < zn → zf zk = zg zk) → dgL zb zn zf = dgL zb zn zg
  | 0, _, _, _ => rfl
  | zn + 1, zf, zg, H => by rw [dgL, dgL, H 0 (by omega), dg_cong zn (fun zk hk => H (zk + 1) (by omega))]
theorem dg_add {zb : Nat} : ∀ (zn : Nat) (zf zg : Nat → Nat), dgL zb zn (fun zk => zf zk + zg zk) = dgL zb zn zf + dgL zb zn zg
  | 0, _, _ => rfl
  | zn + 1, zf, zg => by
    rw [dgL, dgL, dgL, dg_add zn (fun zk => zf (zk + 1)) (fun zk => zg (zk + 1)), Nat.mul_add]
    omega
theorem dg_shr {zb zn : Nat} {zf : Nat → Nat} (h : zf 0 < 2 ^ zb) : dgL zb (zn + 1) zf / 2 ^ zb = dgL zb zn (fun zk => zf (zk + 1)) := by
  rw [dgL, Nat.add_mul_div_left _ _ (Nat.two_pow_pos zb), Nat.div_eq_of_lt h, Nat.zero_add]
theorem and_split {zk za zx zc zy : Nat} (ha : za < 2 ^ zk) (hc : zc < 2 ^ zk) : (za + 2 ^ zk * zx) &&& (zc + 2 ^ zk * zy) = (za &&& zc) + 2 ^ zk * (zx &&& zy) := by
  apply Nat.eq_of_testBit_eq
  intro zi
  rw [Nat.testBit_and, Nat.add_comm za, Nat.add_comm zc, Nat.add_comm (za &&& zc), Nat.testBit_two_pow_mul_add _ ha, Nat.testBit_two_pow_mul_add _ hc, Nat.testBit_two_pow_mul_add _ (Nat.lt_of_le_of_lt Nat.and_le_left ha)]
  split
  · rw [Nat.testBit_and]
  · rw [Nat.testBit_and]
def mkN (zb : Nat) : Nat → Nat
  | 0 => 0
  | zn + 1 => (2 ^ zb - 1) + 2 ^ (2 * zb) * mkN zb zn
theorem p2_2 (zb : Nat) : 2 ^ (2 * zb) = 2 ^ zb * 2 ^ zb := by rw [← Nat.pow_add]; congr 1; omega
/-- every other digit by a mask -/
theorem dg_mask {zb : Nat} : ∀ (zn : Nat) (zf : Nat → Nat), (∀ zk, zf zk < 2 ^ zb) → dgL zb (2 * zn) zf &&& mkN zb zn = dgL (2 * zb) zn (fun zk => zf (2 * zk))
  | 0, zf, _ => by rw [mkN, Nat.and_zero]; rfl
  | zn + 1, zf, H => by
    have ih := dg_mask zn (fun zk => zf (zk + 1 + 1)) (fun zk => H _)
    have hb := Nat.two_pow_pos zb
    have e1 : dgL zb (2 * (zn + 1)) zf = (zf 0 + 2 ^ zb * zf 1) + 2 ^ (2 * zb) * dgL zb (2 * zn) (fun zk => zf (zk + 1 + 1)) := by
      show dgL zb (2 * zn + 1 + 1) zf = _
      rw [dgL, dgL, p2_2, Nat.mul_add, Nat.mul_assoc]
      simp only [Nat.zero_add]
      omega
    have h0 := H 0
    have h1 := H 1
    have e2 : zf 0 + 2 ^ zb * zf 1 < 2 ^ (2 * zb) := by
      rw [p2_2]
      have : 2 ^ zb * zf 1 ≤ 2 ^ zb * (2 ^ zb - 1) := Nat.mul_le_mul_left _ (by omega)
      rw [Nat.mul_sub, Nat.mul_one] at this
      have h3 : 2 ^ zb ≤ 2 ^ zb * 2 ^ zb := Nat.le_mul_of_pos_right _ hb
      omega
    have e3 : 2 ^ zb - 1 < 2 ^ (2 * zb) := by
      rw [p2_2]
      have h3 : 2 ^ zb ≤ 2 ^ zb * 2 ^ zb := Nat.le_mul_of_pos_right _ hb
      omega
    rw [e1, mkN, and_split e2 e3, ih, Nat.and_two_pow_sub_one_eq_mod, Nat.add_mul_mod_self_left, Nat.mod_eq_of_lt h0]
    show _ = dgL (2 * zb) (zn + 1) (fun zk => zf (2 * zk))
    rw [dgL]
    congr 2
/-- digits two by two -/
theorem dg_pair {zb : Nat} : ∀ (zn : Nat) (zf : Nat → Nat), dgL zb (2 * zn) zf = dgL (2 * zb) zn (fun zk => zf (2 * zk) + 2 ^ zb * zf (2 * zk + 1))
  | 0, _ => rfl
  | zn + 1, zf => by
    show dgL zb (2 * zn + 1 + 1) zf = _
    rw [dgL, dgL, dgL, dg_pair zn (fun zk => zf (zk + 1 + 1)), p2_2, Nat.mul_add, Nat.mul_assoc]
    show zf 0 + (2 ^ zb * zf 1 + _) = zf 0 + 2 ^ zb * zf 1 + _
    rw [Nat.add_assoc]
    rfl
theorem sm_pair (zf : Nat → Nat) : ∀ zn, fb_sm (fun zk => zf (2 * zk) + zf (2 * zk + 1)) zn = fb_sm zf (2 * zn)
  | 0 => rfl
  | zn + 1 => by
    show _ = fb_sm zf (2 * zn + 1 + 1)
    rw [fb_sm_succ, fb_sm_succ, fb_sm_succ, sm_pair zf zn, Nat.add_assoc]
def btN (zn : Nat) (zk : Nat) : Nat := if zn.testBit zk then 1 else 0
theorem dg_bits : ∀ (zm zn : Nat), zn < 2 ^ zm → dgL 1 zm (btN zn) = zn
  | 0, zn, h => by rw [dgL]; omega
  | zm + 1, zn, h => by
    rw [dgL]
    have e : (fun zk => btN zn (zk + 1)) = btN (zn / 2) := by
      funext zk
      unfold btN
      rw [Nat.testBit_succ]
    rw [e, dg_bits zm (zn / 2) (by rw [Nat.pow_succ] at h; omega)]
    have e0 : btN zn 0 = zn % 2 := by
      unfold btN
      rw [Nat.testBit_zero]
      by_cases h2 : zn % 2 = 1
      · rw [if_pos (decide_eq_true h2)]; omega
      · rw [decide_eq_false h2]; simp; omega
    rw [e0]
    omega
theorem sm_ct (zn : Nat) : ∀ zm, fb_sm (btN zn) zm = fb_ct zn.testBit zm
  | 0 => rfl
  | zm + 1 => by rw [fb_sm_succ, fb_ct_succ, sm_ct zn zm]; rfl
theorem dg_lt {zb : Nat} : ∀ (zn : Nat) (zf : Nat → Nat), (∀ zk, zf zk < 2 ^ zb) → dgL zb zn zf < 2 ^ (zb * zn)
  | 0, _, _ => by rw [dgL, Nat.mul_zero]; exact Nat.one_pos
  | zn + 1, zf, H => by
    have ih := dg_lt zn (fun zk => zf (zk + 1)) (fun zk => H _)
    have h0 := H 0
    rw [dgL, Nat.mul_succ, Nat.pow_add, Nat.mul_comm (2 ^ (zb * zn))]
    have : 2 ^ zb * dgL zb zn (fun zk => zf (zk + 1)) ≤ 2 ^ zb * (2 ^ (zb * zn) - 1) := Nat.mul_le_mul_left _ (by omega)
    rw [Nat.mul_sub, Nat.mul_one] at this
    have h3 : 2 ^ zb ≤ 2 ^ zb * 2 ^ (zb * zn) := Nat.le_mul_of_pos_right _ (Nat.two_pow_pos _)
    omega
/-- a leading digit 0 -/
theorem dg_trail {zb : Nat} : ∀ (zn : Nat) {zf zg : Nat → Nat}, (∀ zk, zk < zn → zg zk = zf zk) → zg zn = 0 → dgL zb (zn + 1) zg = dgL zb zn zf
  | 0, zf, zg, _, h => by rw [dgL, dgL, dgL, h]; rfl
  | zn + 1, zf, zg, H, h => by
    show zg 0 + 2 ^ zb * dgL zb (zn + 1) (fun zk => zg (zk + 1)) = zf 0 + 2 ^ zb * dgL zb zn (fun zk => zf (zk + 1))
    rw [H 0 (by omega), dg_trail zn (zf := fun zk => zf (zk + 1)) (zg := fun zk => zg (zk + 1)) (fun zk hk => H (zk + 1) (by omega)) h]
/-- sums of a digit and its next -/
theorem dg_next {zb zn : Nat} {zf : Nat → Nat} (hb : ∀ zk, zf zk < 2 ^ zb) (h0 : ∀ zk, zn ≤ zk → zf zk = 0) : dgL zb zn zf / 2 ^ zb = dgL zb zn (fun zk => zf (zk + 1)) := by
  rcases Nat.eq_zero_or_pos zn with z | z
  · subst z; rw [dgL, dgL, Nat.zero_div]
  · obtain ⟨zq, rfl⟩ : ∃ zq, zn = zq + 1 := ⟨zn - 1, by omega⟩
    rw [dg_shr (hb 0)]
    exact (dg_trail zq (zf := fun zk => zf (zk + 1)) (zg := fun zk => zf (zk + 1)) (fun _ _ => rfl) (h0 _ (Nat.le_refl _))).symm
/-- the first three steps: the bits of each byte -/
def pc1 (zn : Nat) (zk : Nat) : Nat := btN zn (2 * zk) + btN zn (2 * zk + 1)
def pc2 (zn : Nat) (zk : Nat) : Nat := pc1 zn (2 * zk) + pc1 zn (2 * zk + 1)
def pc3 (zn : Nat) (zk : Nat) : Nat := pc2 zn (2 * zk) + pc2 zn (2 * zk + 1)
theorem bt_2 (zn zk : Nat) : btN zn zk ≤ 1 := by unfold btN; split <;> omega
theorem pc1_b (zn zk : Nat) : pc1 zn zk ≤ 2 := by unfold pc1; have h1 := bt_2 zn (2 * zk); have h2 := bt_2 zn (2 * zk + 1); omega
theorem pc2_b (zn zk : Nat) : pc2 zn zk ≤ 4 := by unfold pc2; have h1 := pc1_b zn (2 * zk); have h2 := pc1_b zn (2 * zk + 1); omega
theorem pc3_b (zn zk : Nat) : pc3 zn zk ≤ 8 := by unfold pc3; have h1 := pc2_b zn (2 * zk); have h2 := pc2_b zn (2 * zk + 1); omega
theorem step_1 {zm zn : Nat} (h : zn < 2 ^ (2 * zm)) : zn / 2 &&& mkN 1 zm ≤ zn ∧ zn - (zn / 2 &&& mkN 1 zm) = dgL 2 zm (pc1 zn) := by
  have e0 := dg_bits (2 * zm) zn h
  have e1 : zn / 2 &&& mkN 1 zm = dgL 2 zm (fun zk => btN zn (2 * zk + 1)) := by
    have e2 : zn / 2 = dgL 1 (2 * zm) (btN (zn / 2)) := (dg_bits _ _ (by omega)).symm
    rw [e2, dg_mask zm _ (fun zk => by have := bt_2 (zn / 2) zk; omega)]
    refine dg_cong zm (fun zk _ => ?_)
    unfold btN
    rw [Nat.testBit_succ]
  have e3 : zn = dgL 2 zm (pc1 zn) + dgL 2 zm (fun zk => btN zn (2 * zk + 1)) := by
    rw [← dg_add]
    conv => lhs; rw [← e0, dg_pair zm (btN zn)]
    refine dg_cong zm (fun zk _ => ?_)
    unfold pc1
    omega
  rw [e1]
  omega
theorem step_2 {zm zn : Nat} : (dgL 2 (2 * zm) (pc1 zn) &&& mkN 2 zm) + (dgL 2 (2 * zm) (pc1 zn) / 4 &&& mkN 2 zm) = dgL 4 zm (pc2 zn) := by
  have hb : ∀ zk, pc1 zn zk < 2 ^ 2 := fun zk => by have := pc1_b zn zk; omega
  have e1 := dg_mask zm (pc1 zn) hb
  have e2 : dgL 2 (2 * zm) (pc1 zn) / 4 &&& mkN 2 zm = dgL 4 zm (fun zk => pc1 zn (2 * zk + 1)) := by
    have e3 : dgL 2 (2 * zm) (pc1 zn) = dgL 2 (2 * zm) (fun zk => if zk < 2 * zm then pc1 zn zk else 0) := dg_cong _ (fun zk hk => by rw [if_pos hk])
    rw [show (4 : Nat) = 2 ^ 2 from rfl, e3, dg_next (fun zk => by split; exact hb _; decide) (fun zk hk => by rw [if_neg (by omega)]), dg_mask zm _ (fun zk => by split; exact hb _; decide)]
    refine dg_cong zm (fun zk hk => ?_)
    rw [if_pos (by omega)]
  rw [e1, e2]
  show dgL 4 zm _ + _ = _
  rw [← dg_add]
  rfl
theorem dg_shift {zb : Nat} : ∀ (zs : Nat) {zn : Nat} {zf : Nat → Nat}, (∀ zk, zf zk < 2 ^ zb) → (∀ zk, zn ≤ zk → zf zk = 0) → dgL zb zn zf / 2 ^ (zb * zs) = dgL zb zn (fun zk => zf (zk + zs))
  | 0, zn, zf, _, _ => by rw [Nat.mul_zero, Nat.pow_zero, Nat.div_one]; rfl
  | zs + 1, zn, zf, hb, h0 => by
    rw [Nat.mul_succ, Nat.pow_add, ← Nat.div_div_eq_div_mul, dg_shift zs hb h0, dg_next (fun zk => hb _) (fun zk hk => h0 _ (by omega))]
    exact dg_cong zn (fun zk _ => congrArg zf (by omega))
theorem dg_low {zb zn : Nat} {zf : Nat → Nat} (h : zf 0 < 2 ^ zb) (hn : 0 < zn) : dgL zb zn zf % 2 ^ zb = zf 0 := by
  obtain ⟨zq, rfl⟩ : ∃ zq, zn = zq + 1 := ⟨zn - 1, by omega⟩
  rw [dgL, Nat.add_mul_mod_self_left, Nat.mod_eq_of_lt h]
