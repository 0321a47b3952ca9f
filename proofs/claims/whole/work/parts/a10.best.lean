def nb0 (zr : Nat) : Nat := if zr < 512 then 25 * (zr / 64) + (if zr % 64 / 8 ≤ 4 then 5 * (zr % 64 / 8) + (if zr % 8 ≤ 5 then zr % 8 else 5) else 25) else 200 + (zr - 512) / 64 + (if zr % 64 = 0 then 0 else 1)
theorem nb0_t : ∀ zr, zr < 1024 → (cvz (zr / 64 % 8) (zr / 512 % 2 + 1) (zr % 64) → cnN 0 (zr / 64 % 8) (zr / 512 % 2 + 1) (zr % 64) = nb0 zr ∧ nb0 (zr + 1) = nb0 zr + 1) ∧ (¬ cvz (zr / 64 % 8) (zr / 512 % 2 + 1) (zr % 64) → nb0 (zr + 1) = nb0 zr) := by decide +kernel
def nbN (zk : Nat) : Nat := 208 * (zk / 1024) + nb0 (zk % 1024)
theorem nbN_s (zk : Nat) : nbN (zk + 1) = 208 * (zk / 1024) + nb0 (zk % 1024 + 1) := by
  unfold nbN
  by_cases z : zk % 1024 = 1023
  · rw [show (zk + 1) / 1024 = zk / 1024 + 1 by omega, show (zk + 1) % 1024 = 0 by omega, z, show nb0 0 = 0 from rfl, show nb0 (1023 + 1) = 208 from rfl]
    omega
  · rw [show (zk + 1) / 1024 = zk / 1024 by omega, show (zk + 1) % 1024 = zk % 1024 + 1 by omega]
theorem cn_p (zp zw zs ze : Nat) : cnN zp zw zs ze = 208 * zp + cnN 0 zw zs ze := by
  unfold cnN
  omega
theorem nb_k (zk : Nat) : zk % 1024 / 64 % 8 = zk / 64 % 8 ∧ zk % 1024 / 512 % 2 = zk / 512 % 2 ∧ zk % 1024 % 64 = zk % 64 := ⟨by omega, by omega, by omega⟩
theorem nb_y {zk : Nat} (h : cvz (zk / 64 % 8) (zk / 512 % 2 + 1) (zk % 64)) : cnN (zk / 1024) (zk / 64 % 8) (zk / 512 % 2 + 1) (zk % 64) = nbN zk ∧ nbN (zk + 1) = nbN zk + 1 := by
  obtain ⟨e1, e2, e3⟩ := nb_k zk
  have z := (nb0_t (zk % 1024) (by omega)).1
  rw [e1, e2, e3] at z
  have y := z h
  rw [nbN_s, cn_p, y.1, y.2]
  unfold nbN
  exact ⟨rfl, by omega⟩
theorem nb_n {zk : Nat} (h : ¬ cvz (zk / 64 % 8) (zk / 512 % 2 + 1) (zk % 64)) : nbN (zk + 1) = nbN zk := by
  obtain ⟨e1, e2, e3⟩ := nb_k zk
  have z := (nb0_t (zk % 1024) (by omega)).2
  rw [e1, e2, e3] at z
  rw [nbN_s, z h]
  rfl
theorem cpy_iff {zb zp zw zs ze : Nat} (hb : zb ≤ 4) (h1 : zp < 2 ^ 31) (h2 : zw < 2 ^ 31) (h3 : zs < 3) (h4 : ze < 64) : cpy (nI zb) (nI zp) (nI zw) (nI zs) (nI ze) ↔ zp < zb ∧ cvz zw zs ze := by
  constructor
  · intro z
    obtain ⟨y1, y2⟩ := cpy_f rfl hb h1 h2 (by omega) (by omega) z
    exact ⟨y1, y2⟩
  · rintro ⟨y1, y2, y3, y4, y5⟩
    refine ⟨⟨nI_pos' (by omega), ?_⟩, ⟨nI_pos' (by omega), nI_le (b := 7) (by omega) (by decide)⟩, ⟨nI_le (a := 1) (by omega) (by omega), nI_le (b := 2) (by omega) (by decide)⟩, ⟨nI_pos' (by omega), nI_le (b := 63) (by omega) (by decide)⟩, (cpy_n (zb := zb) hb (zp := zp) (zw := zw) (by omega) h3 h4).mpr y5⟩
    rw [nI_m1 (by omega)]
    exact nI_le (by omega) (by omega)
theorem be_bs {zt : PSt} {zh : AH} (zO : POK zt) (zE : ENz zt zh) : ∀ zk, zk ≤ 1024 * zt.1 2 → 0 ≤ (beF zh zk).2 ∧ (beF zh zk).2 = (bsF (acV (bkc zt) (zh.2.1 69)) (nbN zk)).2 ∧ (((beF zh zk).1 = -4 ∧ (bsF (acV (bkc zt) (zh.2.1 69)) (nbN zk)).1 = -1) ∨ ∃ zj, zj < zk ∧ cvz (zj / 64 % 8) (zj / 512 % 2 + 1) (zj % 64) ∧ (beF zh zk).1 = nI zj ∧ (bsF (acV (bkc zt) (zh.2.1 69)) (nbN zk)).1 = nI (cnN (zj / 1024) (zj / 64 % 8) (zj / 512 % 2 + 1) (zj % 64)) ∧ (beF zh zk).2 = nI (ctT (tcN (bkc zt) (cnN (zj / 1024) (zj / 64 % 8) (zj / 512 % 2 + 1) (zj % 64))) (agQ (zh.2.1 69)) 6))
  | 0, _ => by
    rw [show nbN 0 = 0 from rfl, beF, bsF]
    exact ⟨by decide, rfl, Or.inl ⟨rfl, rfl⟩⟩
  | zk + 1, hk => by
    obtain ⟨i1, i2, i3⟩ := be_bs zO zE zk (by omega)
    have hb := zO.2.1
    rw [beF, zE.2.1]
    by_cases z1 : cvz (zk / 64 % 8) (zk / 512 % 2 + 1) (zk % 64)
    · have hp : zk / 1024 < zt.1 2 := by omega
      obtain ⟨n1, n2⟩ := nb_y z1
      rw [n2, bsF, cl_ct zO zE hp z1, ag_ct zO zE hp z1]
      have yb := ctT_b (tcN (bkc zt) (cnN (zk / 1024) (zk / 64 % 8) (zk / 512 % 2 + 1) (zk % 64))) (clQ (zh.2.1 69)) 6
      have ya := ctT_b (tcN (bkc zt) (cnN (zk / 1024) (zk / 64 % 8) (zk / 512 % 2 + 1) (zk % 64))) (agQ (zh.2.1 69)) 6
      have zc := (cpy_iff (zp := zk / 1024) (zw := zk / 64 % 8) (zs := zk / 512 % 2 + 1) (ze := zk % 64) hb (by omega) (by omega) (by omega) (by omega)).mpr ⟨hp, z1⟩
      rw [show acV (bkc zt) (zh.2.1 69) (nbN zk) = if ctT (tcN (bkc zt) (cnN (zk / 1024) (zk / 64 % 8) (zk / 512 % 2 + 1) (zk % 64))) (clQ (zh.2.1 69)) 6 = 0 then nI (ctT (tcN (bkc zt) (cnN (zk / 1024) (zk / 64 % 8) (zk / 512 % 2 + 1) (zk % 64))) (agQ (zh.2.1 69)) 6) else -1 by rw [n1]; rfl]
      by_cases z2 : ctT (tcN (bkc zt) (cnN (zk / 1024) (zk / 64 % 8) (zk / 512 % 2 + 1) (zk % 64))) (clQ (zh.2.1 69)) 6 = 0
      · rw [if_pos z2, ← i2]
        by_cases z3 : (beF zh zk).2 < nI (ctT (tcN (bkc zt) (cnN (zk / 1024) (zk / 64 % 8) (zk / 512 % 2 + 1) (zk % 64))) (agQ (zh.2.1 69)) 6)
        · rw [if_pos z3, if_pos ⟨zc, by rw [z2]; rfl, z3⟩]
          exact ⟨nI_pos' (by omega), rfl, Or.inr ⟨zk, by omega, z1, rfl, by rw [n1], rfl⟩⟩
        · rw [if_neg z3, if_neg (fun z => z3 z.2.2)]
          refine ⟨i1, i2, ?_⟩
          rcases i3 with i3 | ⟨zj, j1, j2⟩
          · exact Or.inl i3
          · exact Or.inr ⟨zj, by omega, j2⟩
      · have z3 : ¬ (bsF (acV (bkc zt) (zh.2.1 69)) (nbN zk)).2 < -1 := by
          rw [← i2]
          intro z
          rw [i_le] at i1
          rw [i_lt] at z
          have y1 : (0 : Int32).toInt = 0 := rfl
          have y2 : (-1 : Int32).toInt = -1 := by decide
          omega
        rw [if_neg z2, if_neg z3, if_neg (fun z => nI_ne0 (by omega) (by omega) z.2.1)]
        refine ⟨i1, i2, ?_⟩
        rcases i3 with i3 | ⟨zj, j1, j2⟩
        · exact Or.inl i3
        · exact Or.inr ⟨zj, by omega, j2⟩
    · rw [nb_n z1, if_neg (fun z => z1 ((cpy_iff (zp := zk / 1024) (zw := zk / 64 % 8) (zs := zk / 512 % 2 + 1) (ze := zk % 64) hb (by omega) (by omega) (by omega) (by omega)).mp z.1).2)]
      refine ⟨i1, i2, ?_⟩
      rcases i3 with i3 | ⟨zj, j1, j2⟩
      · exact Or.inl i3
      · exact Or.inr ⟨zj, by omega, j2⟩
theorem st_best (E : ME) {zn : Nat} {zh : AH} (hi : InV zn zh) (zv : Int32) : StI E zn mX10_best mX11_best 4 3 [.int zv] zh := by
  obtain ⟨yw, zT, ⟨zt, zO, zE, zY, zQ, zK⟩, zF, zB, zH, zX⟩ := id hi
  have c1 := cn_X10_best E zh zv (bkc zt) (zt.1 2) _ _ yw zK.1 zO.2.1 zK.2 zF.1
  have c2 := cn_X11_best E zh zv (zt.1 2) yw zE.2.1 zO.2.1
  refine StI_q hi c1 c2 ?_ (fun zg z => Ms_lcX z)
  obtain ⟨i1, i2, i3⟩ := be_bs zO zE (1024 * zt.1 2) (Nat.le_refl _)
  have hb := zO.2.1
  rw [show nbN (1024 * zt.1 2) = zt.1 2 * 208 by unfold nbN; rw [show 1024 * zt.1 2 / 1024 = zt.1 2 by omega, show 1024 * zt.1 2 % 1024 = 0 by omega, show nb0 0 = 0 from rfl]; omega] at i2 i3
  by_cases z1 : 0 ≤ zv ∧ zv ≤ 4
  · rw [if_pos z1, if_pos z1]
    rcases i3 with ⟨j1, j2⟩ | ⟨zj, j1, j2, j3, j4, j5⟩
    · rw [if_pos j1, j2, if_pos (by decide)]
    · obtain ⟨p1, p2, p3, p4⟩ := cn_parts (zp := zj / 1024) j2
      have yn : cnN (zj / 1024) (zj / 64 % 8) (zj / 512 % 2 + 1) (zj % 64) < 1000 := by
        have := p1
        omega
      rw [j4, j5, j3, if_neg (fun z => by
        have y1 := congrArg Int32.toInt z
        rw [nI_toInt (by omega)] at y1
        have y2 : (-4 : Int32).toInt = -4 := by decide
        omega), if_neg (nI_pos (by omega)), nI_clamp (by omega), p1, p2, p3, p4]
      rw [show nI zj / 1024 = nI (zj / 1024) from pk_div (d := 1024) (by omega) (by decide) (by decide), show nI zj / 64 = nI (zj / 64) from pk_div (d := 64) (by omega) (by decide) (by decide), show nI zj / 512 = nI (zj / 512) from pk_div (d := 512) (by omega) (by decide) (by decide)]
      rw [show nI (zj / 64) - nI (zj / 64) / 8 * 8 = nI (zj / 64 % 8) from pk_rem (d := 8) (by omega) (by decide) (by decide), show nI (zj / 512) - nI (zj / 512) / 2 * 2 + 1 = nI (zj / 512 % 2 + 1) from (congrArg (fun zx => zx + 1) (pk_rem (a := zj / 512) (d := 2) (by omega) (by decide) (by decide))).trans (nI_1 _)]
      rw [show nI zj - nI (zj / 64) * 64 = nI (zj % 64) by
        have y1 := pk_rem (a := zj) (d := 64) (by omega) (by decide) (by decide)
        rw [pk_div (by omega) (by decide) (by decide)] at y1
        exact y1]
  · rw [if_neg z1, if_neg z1]
theorem cp_cc {zt : PSt} {zh : AH} (zO : POK zt) (zE : ENz zt zh) {zp : Nat} (hp : zp < zt.1 2) {zl : Int32} (hl : 0 ≤ zl) : ∀ zk, zk ≤ 1024 → cps zh zp zl zk = nI (ccF (fun zq => acV (bkc zt) (zh.2.1 69) (zp * 208 + zq)) zl (nb0 zk))
  | 0, _ => by
    rw [show nb0 0 = 0 from rfl, cps, ccF]
    rfl
  | zk + 1, hk => by
    have hb := zO.2.1
    have e1 : zk / 512 + 1 = zk / 512 % 2 + 1 := by omega
    have zz := nb0_t zk (by omega)
    rw [cps, zE.2.1, e1]
    by_cases z1 : cvz (zk / 64 % 8) (zk / 512 % 2 + 1) (zk % 64)
    · obtain ⟨n1, n2⟩ := zz.1 z1
      have zc := (cpy_iff (zp := zp) (zw := zk / 64 % 8) (zs := zk / 512 % 2 + 1) (ze := zk % 64) hb (by omega) (by omega) (by omega) (by omega)).mpr ⟨hp, z1⟩
      have n3 : zp * 208 + nb0 zk = cnN zp (zk / 64 % 8) (zk / 512 % 2 + 1) (zk % 64) := by
        rw [cn_p, n1]
        omega
      have yb := ctT_b (tcN (bkc zt) (cnN zp (zk / 64 % 8) (zk / 512 % 2 + 1) (zk % 64))) (clQ (zh.2.1 69)) 6
      rw [if_pos zc, n2, ccF, n3, cp_cc zO zE hp hl zk (by omega), cl_ct zO zE hp z1, ag_ct zO zE hp z1]
      unfold acV
      by_cases z2 : ctT (tcN (bkc zt) (cnN zp (zk / 64 % 8) (zk / 512 % 2 + 1) (zk % 64))) (clQ (zh.2.1 69)) 6 = 0
      · rw [if_pos z2]
        by_cases z3 : zl ≤ nI (ctT (tcN (bkc zt) (cnN zp (zk / 64 % 8) (zk / 512 % 2 + 1) (zk % 64))) (agQ (zh.2.1 69)) 6)
        · rw [if_pos z3, if_pos ⟨by rw [z2]; rfl, z3⟩]
          exact nI_add _ 1
        · rw [if_neg z3, if_neg (fun z => z3 z.2)]
          exact nI_add _ 0
      · rw [if_neg z2, if_neg (fun z => nI_ne0 (by omega) (by omega) z.1), if_neg (fun z => by
          rw [i_le] at hl z
          have y1 : (0 : Int32).toInt = 0 := rfl
          have y2 : (-1 : Int32).toInt = -1 := by decide
          omega)]
        exact nI_add _ 0
    · rw [if_neg (fun z => z1 ((cpy_iff (zp := zp) (zw := zk / 64 % 8) (zs := zk / 512 % 2 + 1) (ze := zk % 64) hb (by omega) (by omega) (by omega) (by omega)).mp z).2), zz.2 z1]
      exact cp_cc zO zE hp hl zk (by omega)
theorem eq_copies {zt : PSt} {zh : AH} (zO : POK zt) (zE : ENz zt zh) (zp zl : Int32) : (if (0 ≤ zp ∧ zp ≤ zh.2.1 49 16 - 1) ∧ (0 ≤ zl ∧ zl ≤ 64) then cps zh zp.toNatClampNeg zl 1024 else -1) = (if ptg zt zp ∧ (0 ≤ zl ∧ zl ≤ 64) then nI (ccF (fun zq => acV (bkc zt) (zh.2.1 69) (zp.toNatClampNeg * 208 + zq)) zl 208) else -1) := by
  rw [zE.2.1]
  by_cases z1 : (0 ≤ zp ∧ zp ≤ nI (zt.1 2) - 1) ∧ (0 ≤ zl ∧ zl ≤ 64)
  · obtain ⟨zk, y1, y2⟩ := th_nat z1.1 (Nat.le_trans zO.2.1 (by decide))
    have hb := zO.2.1
    rw [if_pos z1, if_pos z1, cp_cc zO zE (by rw [y2, nI_clamp (by omega)]; exact y1) z1.2.1 1024 (Nat.le_refl _)]
    rfl
  · rw [if_neg z1, if_neg z1]
theorem st_copies (E : ME) {zn : Nat} {zh : AH} (hi : InV zn zh) (zp zl : Int32) : StI E zn mX10_copies mX11_copies 4 3 [.int zp, .int zl] zh := by
  obtain ⟨yw, zT, ⟨zt, zO, zE, zY, zQ, zK⟩, zF, zB, zH, zX⟩ := id hi
  have c2 := cn_X11_copies E zh zp zl (zt.1 2) yw zE.2.1 zO.2.1
  rcases zY with ⟨y1, y2, y3⟩ | ⟨y1, y2, y3⟩
  · exact StI_q hi (cn_X10_copies_3 E zh zt zp zl (bkc zt) (zt.1 2) _ _ yw y1 zO y2 zK.1 zO.2.1 zK.2 zF.1 rfl) c2 (eq_copies zO zE zp zl) (fun zg z => Ms_lcX z)
  · exact StI_q hi (cn_X10_copies_11 E zh zt zp zl (bkc zt) (zt.1 2) _ _ yw y1 zO y2 zK.1 zO.2.1 zK.2 zF.1 rfl) c2 (eq_copies zO zE zp zl) (fun zg z => Ms_lcX z)
