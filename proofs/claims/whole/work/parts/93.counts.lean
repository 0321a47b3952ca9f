theorem cnt_ct (zx : Int32) : ∀ zn, zn ≤ 32 → cntF zx zn = nI (fb_ct (bt zx) zn)
  | 0, _ => by rw [cntF]; rfl
  | zn + 1, hn => by
    rw [cntF, cnt_ct zx zn (by omega), sh1 zx (by omega), fb_ct_succ]
    cases bt zx zn
    · rw [if_neg (by decide), if_neg (by decide)]
      exact nI_add _ 0
    · rw [if_pos rfl, if_pos rfl]
      exact nI_add _ 1
theorem ct_more {zp : Nat → Bool} {zm : Nat} (h : ∀ zi, zm ≤ zi → zp zi = false) : ∀ zk, fb_ct zp (zm + zk) = fb_ct zp zm
  | 0 => rfl
  | zk + 1 => by
    rw [show zm + (zk + 1) = (zm + zk) + 1 by omega, fb_ct_succ, ct_more h zk, h (zm + zk) (by omega), if_neg (by decide)]
    rfl
theorem cnt_bc {zn : Nat} (h : zn < 2 ^ 16) : cntF (nI zn) 16 = bcI (nI zn) := by
  rw [cnt_ct _ 16 (by decide), bcI_N (by omega)]
  have z1 : fb_ct (bt (nI zn)) 16 = fb_ct zn.testBit 16 := fb_ct_cong (fun zi hi => bt_nI (by omega))
  have z2 := ct_more (zp := zn.testBit) (zm := 16) (fun zi hi => Nat.testBit_lt_two_pow (Nat.lt_of_lt_of_le h (Nat.pow_le_pow_right (by decide) hi))) 16
  rw [z1, ← z2]
