theorem HN_told {zt : PSt} {zh : AH} (zO : POK zt) (zE : ENz zt zh) : HNz zh (zt.1 1) (zt.2 0) (zt.2 1) (zt.1 3) :=
  ⟨fun zk hk => ⟨(zE.2.2.2.1 zk hk).1, (zO.2.2.2.2.2.1 zk hk).1, (zE.2.2.2.1 zk hk).2.1, (zO.2.2.2.2.2.1 zk hk).2.1⟩, zE.2.2.1, zO.2.2.1⟩
theorem row_iff {zt : PSt} {zh : AH} (zO : POK zt) (zE : ENz zt zh) (za : Int32) : ((0 ≤ za ∧ za ≤ zh.2.1 49 14 - 1) ∧ 0 < zh.2.1 53 (Int32.toNatClampNeg za)) ↔ rwg zt za := by
  rw [zE.1]
  constructor
  · rintro ⟨z1, z2⟩
    obtain ⟨zk, y1, rfl⟩ := th_nat z1 (Nat.le_trans zO.1 (by decide))
    exact ⟨z1, by have y0 := zO.1; have y3 := (row_N (HN_told zO zE) zE.1 zO.1 y1).mp ⟨by rw [zE.1]; exact z1, z2⟩; rw [nI_clamp (by omega)]; exact y3⟩
  · rintro ⟨z1, z2⟩
    obtain ⟨zk, y1, rfl⟩ := th_nat z1 (Nat.le_trans zO.1 (by decide))
    have y0 := zO.1
    rw [nI_clamp (by omega)] at z2
    exact ⟨z1, ((row_N (HN_told zO zE) zE.1 zO.1 y1).mpr z2).2⟩
theorem eq_sure {zt : PSt} {zh : AH} (zO : POK zt) (zE : ENz zt zh) (za zb : Int32) : (if ((0 ≤ za ∧ za ≤ zh.2.1 49 14 - 1) ∧ 0 < zh.2.1 53 (Int32.toNatClampNeg za)) ∧ ((0 ≤ zb ∧ zb ≤ zh.2.1 49 14 - 1) ∧ 0 < zh.2.1 53 (Int32.toNatClampNeg zb)) ∧ ¬ za = zb then surI zh za zb else -1) = (if rwg zt za ∧ rwg zt zb ∧ ¬ za = zb then (if surN (zt.2 0) (zt.2 1) (zt.1 3) za.toNatClampNeg zb.toNatClampNeg then 1 else 0) else -1) := by
  by_cases z1 : rwg zt za ∧ rwg zt zb ∧ ¬ za = zb
  · rw [if_pos z1, if_pos ⟨(row_iff zO zE za).mpr z1.1, (row_iff zO zE zb).mpr z1.2.1, z1.2.2⟩]
    have y0 := zO.1
    obtain ⟨zk, y1, y2⟩ := th_nat z1.1.1 (Nat.le_trans zO.1 (by decide))
    obtain ⟨zj, y3, y4⟩ := th_nat z1.2.1.1 (Nat.le_trans zO.1 (by decide))
    rw [y2, y4, nI_clamp (by omega), nI_clamp (by omega)]
    exact sur_N (HN_told zO zE) zO.1 y1 y3
  · rw [if_neg z1, if_neg (fun z => z1 ⟨(row_iff zO zE za).mp z.1, (row_iff zO zE zb).mp z.2.1, z.2.2⟩)]
theorem st_sure (E : ME) {zn : Nat} {zh : AH} (hi : InV zn zh) (za zb : Int32) : StI E zn mX10_sure mX11_sure 4 3 [.int za, .int zb] zh := by
  obtain ⟨zw, zT, ⟨zt, zO, zE, zY, zQ, zK⟩, zF, zB, zH, zX⟩ := id hi
  rcases zY with ⟨y1, y2, y3⟩ | ⟨y1, y2, y3⟩
  · exact StI_r hi (cn_X10_sure_3 E zh zt za zb zw y1 zO y2) (cn_X11_sure E zh za zb (zt.1 1) zw zE.1 zO.1) (eq_sure zO zE za zb)
  · exact StI_r hi (cn_X10_sure_11 E zh zt za zb zw y1 zO y2) (cn_X11_sure E zh za zb (zt.1 1) zw zE.1 zO.1) (eq_sure zO zE za zb)
theorem eq_size {zt : PSt} {zh : AH} (zO : POK zt) (zE : ENz zt zh) (za zv : Int32) : (if ((0 ≤ za ∧ za ≤ zh.2.1 49 14 - 1) ∧ 0 < zh.2.1 53 (Int32.toNatClampNeg za)) ∧ (0 ≤ zv ∧ zv ≤ 1) then (if zv = 0 then nI ((zh.2.1 54 (Int32.toNatClampNeg za)).toNatClampNeg / Nat.gcd (zh.2.1 54 (Int32.toNatClampNeg za)).toNatClampNeg (zh.2.1 53 (Int32.toNatClampNeg za)).toNatClampNeg) else nI ((zh.2.1 53 (Int32.toNatClampNeg za)).toNatClampNeg / Nat.gcd (zh.2.1 54 (Int32.toNatClampNeg za)).toNatClampNeg (zh.2.1 53 (Int32.toNatClampNeg za)).toNatClampNeg)) else -1) = (if rwg zt za ∧ (0 ≤ zv ∧ zv ≤ 1) then (if zv = 0 then nI (zt.2 1 za.toNatClampNeg / Nat.gcd (zt.2 1 za.toNatClampNeg) (zt.2 0 za.toNatClampNeg)) else nI (zt.2 0 za.toNatClampNeg / Nat.gcd (zt.2 1 za.toNatClampNeg) (zt.2 0 za.toNatClampNeg))) else -1) := by
  by_cases z1 : rwg zt za ∧ (0 ≤ zv ∧ zv ≤ 1)
  · rw [if_pos z1, if_pos ⟨(row_iff zO zE za).mpr z1.1, z1.2⟩]
    have y0 := zO.1
    obtain ⟨zk, y1, y2⟩ := th_nat z1.1.1 (Nat.le_trans zO.1 (by decide))
    have y5 := zO.2.2.2.2.2.1 zk y1
    rw [y2, nI_clamp (by omega), (zE.2.2.2.1 zk y1).1, (zE.2.2.2.1 zk y1).2.1, nI_clamp (by omega), nI_clamp (by omega)]
  · rw [if_neg z1, if_neg (fun z => z1 ⟨(row_iff zO zE za).mp z.1, z.2⟩)]
theorem st_size (E : ME) {zn : Nat} {zh : AH} (hi : InV zn zh) (za zb : Int32) : StI E zn mX10_size mX11_size 3 3 [.int za, .int zb] zh := by
  obtain ⟨zw, zT, ⟨zt, zO, zE, zY, zQ, zK⟩, zF, zB, zH, zX⟩ := id hi
  have zC : CBz (zh.2.1 53) (zt.1 1) 99 := fun zk hk => ⟨_, (zO.2.2.2.2.2.1 zk hk).1, (zE.2.2.2.1 zk hk).1⟩
  have zD : CBz (zh.2.1 54) (zt.1 1) 999 := fun zk hk => ⟨_, (zO.2.2.2.2.2.1 zk hk).2.1, (zE.2.2.2.1 zk hk).2.1⟩
  rcases zY with ⟨y1, y2, y3⟩ | ⟨y1, y2, y3⟩
  · exact StI_r hi (cn_X10_size_3 E zh zt za zb zw y1 zO y2) (cn_X11_size E zh za zb (zt.1 1) zw zE.1 zO.1 zC zD) (eq_size zO zE za zb)
  · exact StI_r hi (cn_X10_size_11 E zh zt za zb zw y1 zO y2) (cn_X11_size E zh za zb (zt.1 1) zw zE.1 zO.1 zC zD) (eq_size zO zE za zb)
theorem hnd_far {zc zl : Nat → Nat} {zp zm : Nat} {zv : Int32} (hv : 22 ≤ zv) : ∀ zf zn zs, zs < 2 ^ zm → fb_ct zs.testBit zm + zn ≤ 12 → hndN zc zl zp zm zv zf zn zs = -1
  | 0, zn, zs, _, _ => by rw [hndN]
  | zf + 1, zn, zs, h1, h2 => by
    have h22 : (22 : Int32).toInt = 22 := by decide
    have h0 : (0 : Int32).toInt = 0 := rfl
    have h10 : (10 : Int32).toInt = 10 := by decide
    have hv2 := i_le.mp hv
    rw [hndN]
    by_cases z0 : zs = 0
    · rw [if_pos z0, if_neg (fun z => by rw [z, h0] at hv2; omega)]
    · rw [if_neg z0]
      have y1 := hd_ct (zc := zc) (zl := zl) (zp := zp) z0 h1
      rw [if_neg ?_]
      · exact hnd_far hv zf (zn + 1) _ (xor_lt2 h1 (hd_lt _ _ _ _ _ _)) (by omega)
      · intro z
        have z2 : zv = nI (zn + 10) := by
          rw [show zv = (zv - 10) + 10 from (Int32.sub_add_cancel zv 10).symm, ← z]
          exact nI_add zn 10
        rw [z2, nI_toInt (by omega)] at hv2
        omega
theorem eq_hands {zt : PSt} (zO : POK zt) (zv : Int32) : (if ¬ zv < 0 ∧ ¬ (1 ≤ zv ∧ zv ≤ 9) then hndN (zt.2 0) (zt.2 1) (zt.1 3) (zt.1 1) zv 13 0 (rwsN (zt.2 0) (zt.1 1)) else -1) = (if zv = 0 ∨ (10 ≤ zv ∧ zv ≤ 21) then hndN (zt.2 0) (zt.2 1) (zt.1 3) (zt.1 1) zv 13 0 (rwsN (zt.2 0) (zt.1 1)) else -1) := by
  have h0 : (0 : Int32).toInt = 0 := rfl
  have h1 : (1 : Int32).toInt = 1 := by decide
  have h9 : (9 : Int32).toInt = 9 := by decide
  have h10 : (10 : Int32).toInt = 10 := by decide
  have h21 : (21 : Int32).toInt = 21 := by decide
  have h22 : (22 : Int32).toInt = 22 := by decide
  by_cases z1 : zv = 0 ∨ (10 ≤ zv ∧ zv ≤ 21)
  · rw [if_pos z1, if_pos]
    simp only [i_le, i_lt, i_eq, h0, h1, h9, h10, h21] at z1 ⊢
    omega
  · rw [if_neg z1]
    by_cases z2 : 22 ≤ zv
    · rw [if_pos]
      · refine hnd_far z2 13 0 _ (rws_lt _ _) ?_
        have := fb_ct_le (rwsN (zt.2 0) (zt.1 1)).testBit (zt.1 1)
        have := zO.1
        omega
      · simp only [i_le, i_lt, i_eq, h0, h1, h9, h10, h21, h22] at z1 z2 ⊢
        omega
    · rw [if_neg]
      simp only [i_le, i_lt, i_eq, h0, h1, h9, h10, h21, h22] at z1 z2 ⊢
      omega
theorem st_hands (E : ME) {zn : Nat} {zh : AH} (hi : InV zn zh) (za : Int32) : StI E zn mX10_hands mX11_hands 5 3 [.int za] zh := by
  obtain ⟨zw, zT, ⟨zt, zO, zE, zY, zQ, zK⟩, zF, zB, zH, zX⟩ := id hi
  rcases zY with ⟨y1, y2, y3⟩ | ⟨y1, y2, y3⟩
  · exact StI_r hi (cn_X10_hands_3 E zh zt za zw y1 zO y2) (cn_X11_hands E zh za (zt.1 1) _ _ _ zw zE.1 zO.1 (HN_told zO zE)) (eq_hands zO za)
  · exact StI_r hi (cn_X10_hands_11 E zh zt za zw y1 zO y2) (cn_X11_hands E zh za (zt.1 1) _ _ _ zw zE.1 zO.1 (HN_told zO zE)) (eq_hands zO za)
theorem rws_tb (zc : Nat → Nat) : ∀ zn zi, (rwsN zc zn).testBit zi = (decide (zi < zn) && decide (0 < zc zi))
  | 0, zi => by rw [rwsN, Nat.zero_testBit]; simp
  | zn + 1, zi => by
    rw [rwsN, or_if_bit, rws_tb zc zn zi]
    by_cases z1 : zi = zn
    · subst z1
      simp
    · by_cases z2 : zi < zn
      · simp [z1, z2, show zi < zn + 1 by omega]
      · simp [z1, z2, show ¬ zi < zn + 1 by omega]
theorem rw_ct {zf : Nat → Int32} {zc : Nat → Nat} : ∀ zm, (∀ zt, zt < zm → zf zt = nI (zc zt) ∧ zc zt ≤ 99) → rwF zf zm = nI (fb_ct (fun zt => decide (0 < zc zt)) zm)
  | 0, _ => by rw [rwF]; rfl
  | zm + 1, h => by
    rw [rwF, rw_ct zm (fun zt ht => h zt (by omega)), fb_ct_succ, (h zm (by omega)).1]
    have z1 := (h zm (by omega)).2
    by_cases z : 0 < zc zm
    · rw [if_pos (show (0 : Int32) < nI (zc zm) from nI_lt (a := 0) z (by omega)), if_pos (by simpa using z)]
      exact nI_add _ 1
    · rw [show zc zm = 0 by omega, if_neg (by decide), if_neg (by decide)]
      exact nI_add _ 0
theorem rows_eq {zt : PSt} {zh : AH} (zO : POK zt) (zE : ENz zt zh) : rwF (zh.2.1 53) (zt.1 1) = bcI (nI (rwsN (zt.2 0) (zt.1 1))) := by
  have y0 := zO.1
  have y1 : rwsN (zt.2 0) (zt.1 1) < 2 ^ 12 := Nat.lt_of_lt_of_le (rws_lt _ _) (Nat.pow_le_pow_right (by decide) zO.1)
  rw [rw_ct (zc := zt.2 0) (zt.1 1) (fun zk hk => ⟨(zE.2.2.2.1 zk hk).1, (zO.2.2.2.2.2.1 zk hk).1⟩), bcI_N (by omega)]
  congr 1
  have z1 := ct_more (zp := (rwsN (zt.2 0) (zt.1 1)).testBit) (zm := zt.1 1) (fun zi hi => by rw [rws_tb]; simp [show ¬ zi < zt.1 1 by omega]) (32 - zt.1 1)
  rw [show zt.1 1 + (32 - zt.1 1) = 32 by omega] at z1
  rw [z1]
  exact fb_ct_cong (fun zk hk => by rw [rws_tb]; simp [hk])
theorem lost_eq {zf : Nat → Int32} {zx : Int64} {zh : AH} (hF : FLz zf zx zh) : stF zf (-1) 64 = bcL (zh.2.2.1 25 4 ^^^ (-1)) := by
  rw [st_N, bcL_bt]
  congr 1
  refine fb_ct_cong (fun zj hj => ?_)
  rw [lb_xor, lb_m1 zj hj, hF.2.2.2.1 zj hj]
  simp
theorem eq_count {zt : PSt} {zn : Nat} {zh : AH} (hi : InV zn zh) (zO : POK zt) (zE : ENz zt zh) (zv : Int32) : (if zv = 0 then stF (zh.2.1 69) (-1) 64 else if zv = 1 then zh.2.1 49 35 else if zv = 2 then rwF (zh.2.1 53) (zt.1 1) else if zv = 3 then zh.2.1 49 14 - rwF (zh.2.1 53) (zt.1 1) else if zv = 4 then zh.2.1 49 1 else if zv = 5 then (if zh.2.1 73 0 = -4 then -4 else zh.2.1 74 0) else -1) = (if zv = 0 then bcL (zh.2.2.1 25 4 ^^^ (-1)) else if zv = 1 then zh.2.1 34 1 else if zv = 2 then bcI (nI (rwsN (zt.2 0) (zt.1 1))) else if zv = 3 then nI (zt.1 1) - bcI (nI (rwsN (zt.2 0) (zt.1 1))) else if zv = 4 then zh.2.1 1 1 else if zv = 5 then (if zh.2.1 41 1 = 0 then -4 else zh.2.1 41 3) else -1) := by
  obtain ⟨zw, ⟨zb, zq, t1, t2⟩, -, zF, ⟨zB, zp, p1, p2, p3⟩, ⟨⟨zz, s1, s2, s3, s4, s5, s6, s7⟩, -⟩, zX⟩ := hi
  rw [lost_eq zF.1, rows_eq zO zE, p3, p2, zE.1, t1.1, t2.1, s5, s2, s3]
  congr 6
  by_cases z : zh.2.1 41 1 = 0
  · rw [if_pos z, if_pos rfl, if_pos z]
  · rw [if_neg z, if_neg s6, if_neg z]
theorem st_count (E : ME) {zn : Nat} {zh : AH} (hi : InV zn zh) (za : Int32) : StI E zn mX10_count mX11_count 1 3 [.int za] zh := by
  obtain ⟨zw, zT, ⟨zt, zO, zE, zY, zQ, zK⟩, zF, zB, ⟨⟨zz, s1, s2, s3, s4, s5⟩, zH⟩, zX⟩ := id hi
  rcases zY with ⟨y1, y2, y3⟩ | ⟨y1, y2, y3⟩
  · exact StI_r hi (cn_X10_count_3 E zh zt za zw y1 zO y2 s4) (cn_X11_count E zh za (zt.1 1) zw zE.1 zO.1) (eq_count hi zO zE za)
  · exact StI_r hi (cn_X10_count_11 E zh zt za zw y1 zO y2 s4) (cn_X11_count E zh za (zt.1 1) zw zE.1 zO.1) (eq_count hi zO zE za)
theorem eq_works (zv : Int32) (za zb zc : Int64) : (if 0 ≤ zv ∧ zv ≤ 2 then (if zv = 0 then za else if zv = 1 then zb else zc) else -1) = (if zv = 0 then za else if zv = 1 then zb else if zv = 2 then zc else -1) := by
  by_cases z2 : 0 ≤ zv ∧ zv ≤ 2
  · rw [if_pos z2]
    rcases v_2.mp z2 with rfl | rfl | rfl <;> rfl
  · rw [if_neg z2, if_neg (fun z => z2 (v_2.mpr (Or.inl z))), if_neg (fun z => z2 (v_2.mpr (Or.inr (Or.inl z)))), if_neg (fun z => z2 (v_2.mpr (Or.inr (Or.inr z))))]
theorem st_works (E : ME) {zn : Nat} {zh : AH} (hi : InV zn zh) (za : Int32) : StJ E zn mX10_works mX11_works 3 1 [.int za] zh := by
  obtain ⟨zw, zT, ⟨zt, zO, zE, zY, zQ, zK⟩, zF, zB, zH, zX⟩ := id hi
  have c2 := cn_X11_works E zh za (stN (zh.2.1 69)) (zt.2 5) (zt.2 4) zw rfl (fun zq hq => ⟨(zE.2.2.2.2.1 zq hq).2, (zO.2.2.2.2.2.2.1 zq hq).2⟩) (fun zq hq => ⟨(zE.2.2.2.2.1 zq hq).1, (zO.2.2.2.2.2.2.1 zq hq).1⟩)
  rcases zY with ⟨y1, y2, y3⟩ | ⟨y1, y2, y3⟩
  · exact StJ_q hi (cn_X10_works_3 E zh zt za _ _ zw y1 zO y2 zF.1) c2 (eq_works za _ _ _) (fun zg z => by rw [z]; exact Ms_0 zh)
  · exact StJ_q hi (cn_X10_works_11 E zh zt za _ _ zw y1 zO y2 zF.1) c2 (eq_works za _ _ _) (fun zg z => by rw [z]; exact Ms_0 zh)
