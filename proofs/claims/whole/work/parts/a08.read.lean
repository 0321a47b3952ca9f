theorem rdF_cong {zb zg zk : Nat → Int32} (h : ∀ zi, zb zi = 0 → zg zi = zk zi) : ∀ zf zi, rdF zb zg zf zi = rdF zb zk zf zi
  | 0, zi => by rw [rdF, rdF]
  | zf + 1, zi => by
    rw [rdF, rdF]
    by_cases z : zb zi = 0
    · rw [if_pos z, if_pos z, h zi z, rdF_cong h zf (zi + 1)]
    · rw [if_neg z, if_neg z]
theorem rdW_cong {zf zg zk : Nat → Int32} {zc zm : Nat} (h : ∀ zi, zi < zm → zg zi = zk zi) : ∀ zn, rdW zf zg zc zm zn = rdW zf zk zc zm zn
  | 0 => by rw [rdW, rdW]
  | zn + 1 => by
    rw [rdW, rdW, rdW_cong h zn]
    by_cases z : zn < zm
    · rw [if_pos z, if_pos z, h zn z]
    · rw [if_neg z, if_neg z]
theorem rdW_at (zf zg : Nat → Int32) (zc zm : Nat) : ∀ zn zj, rdW zf zg zc zm zn zj = if zc ≤ zj ∧ zj < zc + zn then (if zj - zc < zm then zg (zj - zc) else -1) else zf zj
  | 0, zj => by rw [rdW, if_neg (by omega)]
  | zn + 1, zj => by
    rw [rdW]
    unfold upd
    by_cases z : zj = zc + zn
    · rw [if_pos z, if_pos (show zc ≤ zj ∧ zj < zc + (zn + 1) by omega), show zj - zc = zn by omega]
    · rw [if_neg z, rdW_at zf zg zc zm zn zj]
      by_cases y : zc ≤ zj ∧ zj < zc + zn
      · rw [if_pos y, if_pos (show zc ≤ zj ∧ zj < zc + (zn + 1) by omega)]
      · rw [if_neg y, if_neg (show ¬ (zc ≤ zj ∧ zj < zc + (zn + 1)) by omega)]
theorem rdL_bt (zx : Int64) (zc : Nat) : ∀ zn, zc + zn ≤ 64 → ∀ zj, zj < 64 → lbt (rdL zx zc zn) zj = (lbt zx zj && !decide (zc ≤ zj ∧ zj < zc + zn))
  | 0, _, zj, hj => by
    rw [rdL, decide_eq_false (by omega)]
    simp
  | zn + 1, hn, zj, hj => by
    rw [rdL, lb_clr (by omega) hj, rdL_bt zx zc zn (by omega) zj hj]
    by_cases z : zj = zc + zn
    · rw [decide_eq_true z, decide_eq_true (p := zc ≤ zj ∧ zj < zc + (zn + 1)) (by omega)]
      simp
    · by_cases y : zc ≤ zj ∧ zj < zc + zn
      · rw [decide_eq_true y, decide_eq_true (p := zc ≤ zj ∧ zj < zc + (zn + 1)) (by omega)]
        simp
      · rw [decide_eq_false y, decide_eq_false (p := zc ≤ zj ∧ zj < zc + (zn + 1)) (by omega), decide_eq_false z]
        simp
theorem st_read_0 (E : ME) {zn : Nat} {zh : AH} (hi : InV zn zh) (hn : zn ≤ 512) (za zf zc zm : Int32) : StI E zn mX10_read mX11_read 3 1 [.int 0, .int za, .int zf, .int zc, .int zm] zh := by
  obtain ⟨zw, zT, zS, zF, zB, ⟨h0, h1, h2, h3⟩, zX⟩ := id hi
  have zG : ∀ zj : Nat, zj < 4 → ∃ zl : Nat, zl ≤ 64 ∧ zh.2.1 74 zj = nI zl := by
    intro zj hj
    rcases (by omega : zj = 0 ∨ zj = 1 ∨ zj = 2 ∨ zj = 3) with rfl | rfl | rfl | rfl
    · obtain ⟨zu, u1, u2, -⟩ := h0; exact ⟨zu, u1, u2⟩
    · obtain ⟨zu, u1, u2, -⟩ := h1; exact ⟨zu, u1, u2⟩
    · obtain ⟨zu, u1, u2, -⟩ := h2; exact ⟨zu, u1, u2⟩
    · obtain ⟨zu, u1, u2, -⟩ := h3; exact ⟨zu, u1, u2⟩
  have zk : (0 : Int32) ≤ 0 ∧ (0 : Int32) ≤ 3 := by decide
  obtain ⟨zz, s1, s2, s3, s4, s5, s6, s7⟩ := id h0
  have c1 := cn_X10_read_0 E zh za zf zc zm zz _ _ zw s3 s1 s6 zF.1
  have eB : rdB (zh.2.1 73 0) za zf.toInt (zh.2.1 74 0).toNatClampNeg = rdB (if zh.2.1 41 1 = 0 then -4 else zh.2.1 41 2) za zf.toInt zz := by
    rw [s5, s2, nI_clamp (by omega)]
  have eG : ∀ zi : Nat, (rdB (if zh.2.1 41 1 = 0 then -4 else zh.2.1 41 2) za zf.toInt zz) zi = 0 → (fun zj : Nat => zh.2.1 75 (64 * 0 + (zf.toInt + (zj : Nat)).toNat)) zi = (fun zj : Nat => zh.2.1 42 (zf.toInt + (zj : Nat)).toNat) zi := by
    intro zi z
    obtain ⟨y1, y2, y3, y4⟩ := rdB_0 z
    exact (s7 _ (by omega)).symm
  have eR := rdF_cong eG zm.toNatClampNeg 0
  obtain ⟨zR, eR0⟩ : ∃ zR, zR = rdF (rdB (if zh.2.1 41 1 = 0 then -4 else zh.2.1 41 2) za zf.toInt zz) (fun zj : Nat => zh.2.1 42 (zf.toInt + (zj : Nat)).toNat) zm.toNatClampNeg 0 := ⟨_, rfl⟩
  have eO := rd_ok (zb := rdB (if zh.2.1 41 1 = 0 then -4 else zh.2.1 41 2) za zf.toInt zz) (zg := (fun zj : Nat => zh.2.1 42 (zf.toInt + (zj : Nat)).toNat)) zm.toNatClampNeg 0
  rw [← eR0] at c1 eR eO
  by_cases zC : ((0 ≤ za ∧ za ≤ 2) ∧ ¬ zm < 0 ∧ ¬ zc < 0 ∧ zc.toInt + zm.toInt ≤ 64) ∧ zR.2.2 = false
  · refine ⟨_, c1, fun zr g1 z1 => ⟨_, z1.1, ?_⟩⟩
    obtain ⟨-, z2, -⟩ := z1
    obtain ⟨z3, z41, z42, z43, z44, z45, z46, z5, zq, q1, q2, q3⟩ := z2 zC
    have e69 : g1.2.1 69 = zh.2.1 69 := z43 69 (by omega) (by omega) (by omega)
    have e73 : g1.2.1 73 = zh.2.1 73 := z43 73 (by omega) (by omega) (by omega)
    have e74 : g1.2.1 74 = zh.2.1 74 := z43 74 (by omega) (by omega) (by omega)
    have e75 : g1.2.1 75 = zh.2.1 75 := z43 75 (by omega) (by omega) (by omega)
    have e49 : g1.2.1 49 = zh.2.1 49 := z43 49 (by omega) (by omega) (by omega)
    have l49 : g1.2.2.1 49 = zh.2.2.1 49 := z44 49 (by omega) (by omega)
    have zw1 : WF g1 := by unfold WF at zw ⊢; rw [z41, z42]; exact zw
    have c2 := cn_X11_read E g1 0 za zf zc zm zw1 (by rw [e74]; exact zG)
    have zC1 : (0 : Int32) ≤ 0 ∧ (0 : Int32) ≤ 3 ∧ True := ⟨zk.1, zk.2, trivial⟩
    have zC2 : ((0 : Int32) ≤ 0 ∧ (0 : Int32) ≤ 3) ∧ (0 ≤ za ∧ za ≤ 2) ∧ ¬ zm < 0 ∧ ¬ zc < 0 ∧ zc.toInt + zm.toInt ≤ 64 := ⟨zk, zC.1⟩
    have zC3 : (((0 : Int32) ≤ 0 ∧ (0 : Int32) ≤ 3) ∧ (0 ≤ za ∧ za ≤ 2) ∧ ¬ zm < 0 ∧ ¬ zc < 0 ∧ zc.toInt + zm.toInt ≤ 64) ∧ zR.2.2 = false := ⟨zC2, zC.2⟩
    rw [show (0 : Int32).toNatClampNeg = 0 from rfl, e73, e74, e75, e69, e49, l49, eB, eR, if_pos zC2, if_pos zC3] at c2
    refine ⟨_, zw1, c2, fun zy g2 z6 => ⟨by rw [z6.1, if_pos zC.1], ?_⟩⟩
    obtain ⟨-, rfl⟩ := z6
    obtain ⟨y1, y2⟩ := cl_le (zx := zm) (za := 64) ⟨(i_lt2 _ _).mp zC.1.2.1, by
      have z7 := zC.1.2.2.2
      have z8 := zC.1.2.2.1
      simp only [i_lt, i_le] at z8 ⊢
      have z9 : (0 : Int32).toInt = 0 := rfl
      show zm.toInt ≤ 64
      omega⟩ (by decide)
    obtain ⟨y3, y4⟩ := cl_le (zx := zc) (za := 64) ⟨(i_lt2 _ _).mp zC.1.2.2.1, by
      have z7 := zC.1.2.2.2
      have z8 := zC.1.2.1
      simp only [i_lt, i_le] at z8 ⊢
      have z9 : (0 : Int32).toInt = 0 := rfl
      show zc.toInt ≤ 64
      omega⟩ (by decide)
    have y5 : zc.toNatClampNeg + zm.toNatClampNeg ≤ 64 := by
      have z7 := zC.1.2.2.2
      rw [y4, y2, nI_toInt (by omega), nI_toInt (by omega)] at z7
      omega
    have eW : rdW (zh.2.1 69) (fun zj : Nat => zh.2.1 75 (64 * 0 + (zf.toInt + (zj : Nat)).toNat)) zc.toNatClampNeg zR.2.1 zm.toNatClampNeg = rdW (zh.2.1 69) (fun zj : Nat => zh.2.1 42 (zf.toInt + (zj : Nat)).toNat) zc.toNatClampNeg zR.2.1 zm.toNatClampNeg := rdW_cong (fun zi hz => eG zi (eO.2.2 zi (Nat.zero_le _) hz).1) _
    refine flo_i (h1 := g1) (zt := zR.1) (zq := zq) hi hn z41 z42 (fun zk a1 a2 a3 a4 => z43 zk a1 a2 a3) z5 (fun zk a1 a2 a3 => z44 zk a1 a2) rfl rfl (fun zk a1 a2 a3 a4 a5 => ?_) (fun zj a1 a2 a3 a4 a5 => ?_) rfl (fun zk a1 => ?_) ?_ ?_ ?_ ?_ (by omega) q2 ?_
    · rw [sI_ne _ _ a1]
      exact sI_ne _ _ a2
    · rw [sI_at, e49]
      exact if_neg a5
    · exact sL_ne _ _ a1
    · show FLz (rdW (zh.2.1 69) (fun zj : Nat => zh.2.1 75 (64 * 0 + (zf.toInt + (zj : Nat)).toNat)) zc.toNatClampNeg zR.2.1 zm.toNatClampNeg) (rdL (zh.2.2.1 49 37) zc.toNatClampNeg zm.toNatClampNeg) g1
      rw [eW]
      exact z3
    · rw [z45 6 (by omega)]
      exact zF.2.1
    · rw [z45 6 (by omega)]
      exact zF.2.2.1
    · intro zj hj
      show lbt (rdL (zh.2.2.1 49 37) zc.toNatClampNeg zm.toNatClampNeg) zj = true → ¬ rdW (zh.2.1 69) _ zc.toNatClampNeg zR.2.1 zm.toNatClampNeg zj = -1
      rw [rdL_bt _ _ _ y5 zj hj, rdW_at, Bool.and_eq_true]
      rintro ⟨z7, z8⟩
      have z9 : ¬ (zc.toNatClampNeg ≤ zj ∧ zj < zc.toNatClampNeg + zm.toNatClampNeg) := fun y => by rw [decide_eq_true y] at z8; exact absurd z8 (by decide)
      rw [if_neg z9]
      exact zF.2.2.2.1 zj hj z7
    · intro z zj hj
      show rdW (zh.2.1 69) (fun zj : Nat => zh.2.1 75 (64 * 0 + (zf.toInt + (zj : Nat)).toNat)) zc.toNatClampNeg zR.2.1 zm.toNatClampNeg zj = _
      rw [eW, q3 z]
  · refine ⟨_, c1, fun zr g1 z1 => ⟨_, z1.1, ?_⟩⟩
    obtain ⟨-, -, z2⟩ := z1
    have e1 := z2 zC
    subst e1
    have c2 := cn_X11_read E g1 0 za zf zc zm zw zG
    rw [show (0 : Int32).toNatClampNeg = 0 from rfl, eB, eR, if_neg (show ¬ ((((0 : Int32) ≤ 0 ∧ (0 : Int32) ≤ 3) ∧ (0 ≤ za ∧ za ≤ 2) ∧ ¬ zm < 0 ∧ ¬ zc < 0 ∧ zc.toInt + zm.toInt ≤ 64) ∧ zR.2.2 = false) from fun z => zC ⟨z.1.2, z.2⟩)] at c2
    refine ⟨_, zw, c2, fun zy g2 z6 => ⟨?_, by rw [z6.2]; exact InV_s hi⟩⟩
    rw [z6.1]
    by_cases y : (0 ≤ za ∧ za ≤ 2) ∧ ¬ zm < 0 ∧ ¬ zc < 0 ∧ zc.toInt + zm.toInt ≤ 64
    · rw [if_pos (show ((0 : Int32) ≤ 0 ∧ (0 : Int32) ≤ 3) ∧ (0 ≤ za ∧ za ≤ 2) ∧ ¬ zm < 0 ∧ ¬ zc < 0 ∧ zc.toInt + zm.toInt ≤ 64 from ⟨zk, y⟩), if_pos y]
    · rw [if_neg (fun z => y z.2), if_neg y]
theorem st_read_1 (E : ME) {zn : Nat} {zh : AH} (hi : InV zn zh) (hn : zn ≤ 512) (za zf zc zm : Int32) : StI E zn mX10_read mX11_read 3 1 [.int 1, .int za, .int zf, .int zc, .int zm] zh := by
  obtain ⟨zw, zT, zS, zF, zB, ⟨h0, h1, h2, h3⟩, zX⟩ := id hi
  have zG : ∀ zj : Nat, zj < 4 → ∃ zl : Nat, zl ≤ 64 ∧ zh.2.1 74 zj = nI zl := by
    intro zj hj
    rcases (by omega : zj = 0 ∨ zj = 1 ∨ zj = 2 ∨ zj = 3) with rfl | rfl | rfl | rfl
    · obtain ⟨zu, u1, u2, -⟩ := h0; exact ⟨zu, u1, u2⟩
    · obtain ⟨zu, u1, u2, -⟩ := h1; exact ⟨zu, u1, u2⟩
    · obtain ⟨zu, u1, u2, -⟩ := h2; exact ⟨zu, u1, u2⟩
    · obtain ⟨zu, u1, u2, -⟩ := h3; exact ⟨zu, u1, u2⟩
  have zk : (0 : Int32) ≤ 1 ∧ (1 : Int32) ≤ 3 := by decide
  obtain ⟨zz, s1, s2, s3, s4, s5, s6, s7⟩ := id h1
  have c1 := cn_X10_read_1 E zh za zf zc zm zz _ _ zw s3 s1 s6 zF.1
  have eB : rdB (zh.2.1 73 1) za zf.toInt (zh.2.1 74 1).toNatClampNeg = rdB (if zh.2.1 43 1 = 0 then -4 else zh.2.1 43 2) za zf.toInt zz := by
    rw [s5, s2, nI_clamp (by omega)]
  have eG : ∀ zi : Nat, (rdB (if zh.2.1 43 1 = 0 then -4 else zh.2.1 43 2) za zf.toInt zz) zi = 0 → (fun zj : Nat => zh.2.1 75 (64 * 1 + (zf.toInt + (zj : Nat)).toNat)) zi = (fun zj : Nat => zh.2.1 44 (zf.toInt + (zj : Nat)).toNat) zi := by
    intro zi z
    obtain ⟨y1, y2, y3, y4⟩ := rdB_0 z
    exact (s7 _ (by omega)).symm
  have eR := rdF_cong eG zm.toNatClampNeg 0
  obtain ⟨zR, eR0⟩ : ∃ zR, zR = rdF (rdB (if zh.2.1 43 1 = 0 then -4 else zh.2.1 43 2) za zf.toInt zz) (fun zj : Nat => zh.2.1 44 (zf.toInt + (zj : Nat)).toNat) zm.toNatClampNeg 0 := ⟨_, rfl⟩
  have eO := rd_ok (zb := rdB (if zh.2.1 43 1 = 0 then -4 else zh.2.1 43 2) za zf.toInt zz) (zg := (fun zj : Nat => zh.2.1 44 (zf.toInt + (zj : Nat)).toNat)) zm.toNatClampNeg 0
  rw [← eR0] at c1 eR eO
  by_cases zC : ((0 ≤ za ∧ za ≤ 2) ∧ ¬ zm < 0 ∧ ¬ zc < 0 ∧ zc.toInt + zm.toInt ≤ 64) ∧ zR.2.2 = false
  · refine ⟨_, c1, fun zr g1 z1 => ⟨_, z1.1, ?_⟩⟩
    obtain ⟨-, z2, -⟩ := z1
    obtain ⟨z3, z41, z42, z43, z44, z45, z46, z5, zq, q1, q2, q3⟩ := z2 zC
    have e69 : g1.2.1 69 = zh.2.1 69 := z43 69 (by omega) (by omega) (by omega)
    have e73 : g1.2.1 73 = zh.2.1 73 := z43 73 (by omega) (by omega) (by omega)
    have e74 : g1.2.1 74 = zh.2.1 74 := z43 74 (by omega) (by omega) (by omega)
    have e75 : g1.2.1 75 = zh.2.1 75 := z43 75 (by omega) (by omega) (by omega)
    have e49 : g1.2.1 49 = zh.2.1 49 := z43 49 (by omega) (by omega) (by omega)
    have l49 : g1.2.2.1 49 = zh.2.2.1 49 := z44 49 (by omega) (by omega)
    have zw1 : WF g1 := by unfold WF at zw ⊢; rw [z41, z42]; exact zw
    have c2 := cn_X11_read E g1 1 za zf zc zm zw1 (by rw [e74]; exact zG)
    have zC1 : (0 : Int32) ≤ 1 ∧ (1 : Int32) ≤ 3 ∧ True := ⟨zk.1, zk.2, trivial⟩
    have zC2 : ((0 : Int32) ≤ 1 ∧ (1 : Int32) ≤ 3) ∧ (0 ≤ za ∧ za ≤ 2) ∧ ¬ zm < 0 ∧ ¬ zc < 0 ∧ zc.toInt + zm.toInt ≤ 64 := ⟨zk, zC.1⟩
    have zC3 : (((0 : Int32) ≤ 1 ∧ (1 : Int32) ≤ 3) ∧ (0 ≤ za ∧ za ≤ 2) ∧ ¬ zm < 0 ∧ ¬ zc < 0 ∧ zc.toInt + zm.toInt ≤ 64) ∧ zR.2.2 = false := ⟨zC2, zC.2⟩
    rw [show (1 : Int32).toNatClampNeg = 1 from rfl, e73, e74, e75, e69, e49, l49, eB, eR, if_pos zC2, if_pos zC3] at c2
    refine ⟨_, zw1, c2, fun zy g2 z6 => ⟨by rw [z6.1, if_pos zC.1], ?_⟩⟩
    obtain ⟨-, rfl⟩ := z6
    obtain ⟨y1, y2⟩ := cl_le (zx := zm) (za := 64) ⟨(i_lt2 _ _).mp zC.1.2.1, by
      have z7 := zC.1.2.2.2
      have z8 := zC.1.2.2.1
      simp only [i_lt, i_le] at z8 ⊢
      have z9 : (0 : Int32).toInt = 0 := rfl
      show zm.toInt ≤ 64
      omega⟩ (by decide)
    obtain ⟨y3, y4⟩ := cl_le (zx := zc) (za := 64) ⟨(i_lt2 _ _).mp zC.1.2.2.1, by
      have z7 := zC.1.2.2.2
      have z8 := zC.1.2.1
      simp only [i_lt, i_le] at z8 ⊢
      have z9 : (0 : Int32).toInt = 0 := rfl
      show zc.toInt ≤ 64
      omega⟩ (by decide)
    have y5 : zc.toNatClampNeg + zm.toNatClampNeg ≤ 64 := by
      have z7 := zC.1.2.2.2
      rw [y4, y2, nI_toInt (by omega), nI_toInt (by omega)] at z7
      omega
    have eW : rdW (zh.2.1 69) (fun zj : Nat => zh.2.1 75 (64 * 1 + (zf.toInt + (zj : Nat)).toNat)) zc.toNatClampNeg zR.2.1 zm.toNatClampNeg = rdW (zh.2.1 69) (fun zj : Nat => zh.2.1 44 (zf.toInt + (zj : Nat)).toNat) zc.toNatClampNeg zR.2.1 zm.toNatClampNeg := rdW_cong (fun zi hz => eG zi (eO.2.2 zi (Nat.zero_le _) hz).1) _
    refine flo_i (h1 := g1) (zt := zR.1) (zq := zq) hi hn z41 z42 (fun zk a1 a2 a3 a4 => z43 zk a1 a2 a3) z5 (fun zk a1 a2 a3 => z44 zk a1 a2) rfl rfl (fun zk a1 a2 a3 a4 a5 => ?_) (fun zj a1 a2 a3 a4 a5 => ?_) rfl (fun zk a1 => ?_) ?_ ?_ ?_ ?_ (by omega) q2 ?_
    · rw [sI_ne _ _ a1]
      exact sI_ne _ _ a2
    · rw [sI_at, e49]
      exact if_neg a5
    · exact sL_ne _ _ a1
    · show FLz (rdW (zh.2.1 69) (fun zj : Nat => zh.2.1 75 (64 * 1 + (zf.toInt + (zj : Nat)).toNat)) zc.toNatClampNeg zR.2.1 zm.toNatClampNeg) (rdL (zh.2.2.1 49 37) zc.toNatClampNeg zm.toNatClampNeg) g1
      rw [eW]
      exact z3
    · rw [z45 6 (by omega)]
      exact zF.2.1
    · rw [z45 6 (by omega)]
      exact zF.2.2.1
    · intro zj hj
      show lbt (rdL (zh.2.2.1 49 37) zc.toNatClampNeg zm.toNatClampNeg) zj = true → ¬ rdW (zh.2.1 69) _ zc.toNatClampNeg zR.2.1 zm.toNatClampNeg zj = -1
      rw [rdL_bt _ _ _ y5 zj hj, rdW_at, Bool.and_eq_true]
      rintro ⟨z7, z8⟩
      have z9 : ¬ (zc.toNatClampNeg ≤ zj ∧ zj < zc.toNatClampNeg + zm.toNatClampNeg) := fun y => by rw [decide_eq_true y] at z8; exact absurd z8 (by decide)
      rw [if_neg z9]
      exact zF.2.2.2.1 zj hj z7
    · intro z zj hj
      show rdW (zh.2.1 69) (fun zj : Nat => zh.2.1 75 (64 * 1 + (zf.toInt + (zj : Nat)).toNat)) zc.toNatClampNeg zR.2.1 zm.toNatClampNeg zj = _
      rw [eW, q3 z]
  · refine ⟨_, c1, fun zr g1 z1 => ⟨_, z1.1, ?_⟩⟩
    obtain ⟨-, -, z2⟩ := z1
    have e1 := z2 zC
    subst e1
    have c2 := cn_X11_read E g1 1 za zf zc zm zw zG
    rw [show (1 : Int32).toNatClampNeg = 1 from rfl, eB, eR, if_neg (show ¬ ((((0 : Int32) ≤ 1 ∧ (1 : Int32) ≤ 3) ∧ (0 ≤ za ∧ za ≤ 2) ∧ ¬ zm < 0 ∧ ¬ zc < 0 ∧ zc.toInt + zm.toInt ≤ 64) ∧ zR.2.2 = false) from fun z => zC ⟨z.1.2, z.2⟩)] at c2
    refine ⟨_, zw, c2, fun zy g2 z6 => ⟨?_, by rw [z6.2]; exact InV_s hi⟩⟩
    rw [z6.1]
    by_cases y : (0 ≤ za ∧ za ≤ 2) ∧ ¬ zm < 0 ∧ ¬ zc < 0 ∧ zc.toInt + zm.toInt ≤ 64
    · rw [if_pos (show ((0 : Int32) ≤ 1 ∧ (1 : Int32) ≤ 3) ∧ (0 ≤ za ∧ za ≤ 2) ∧ ¬ zm < 0 ∧ ¬ zc < 0 ∧ zc.toInt + zm.toInt ≤ 64 from ⟨zk, y⟩), if_pos y]
    · rw [if_neg (fun z => y z.2), if_neg y]
theorem st_read_2 (E : ME) {zn : Nat} {zh : AH} (hi : InV zn zh) (hn : zn ≤ 512) (za zf zc zm : Int32) : StI E zn mX10_read mX11_read 3 1 [.int 2, .int za, .int zf, .int zc, .int zm] zh := by
  obtain ⟨zw, zT, zS, zF, zB, ⟨h0, h1, h2, h3⟩, zX⟩ := id hi
  have zG : ∀ zj : Nat, zj < 4 → ∃ zl : Nat, zl ≤ 64 ∧ zh.2.1 74 zj = nI zl := by
    intro zj hj
    rcases (by omega : zj = 0 ∨ zj = 1 ∨ zj = 2 ∨ zj = 3) with rfl | rfl | rfl | rfl
    · obtain ⟨zu, u1, u2, -⟩ := h0; exact ⟨zu, u1, u2⟩
    · obtain ⟨zu, u1, u2, -⟩ := h1; exact ⟨zu, u1, u2⟩
    · obtain ⟨zu, u1, u2, -⟩ := h2; exact ⟨zu, u1, u2⟩
    · obtain ⟨zu, u1, u2, -⟩ := h3; exact ⟨zu, u1, u2⟩
  have zk : (0 : Int32) ≤ 2 ∧ (2 : Int32) ≤ 3 := by decide
  obtain ⟨zz, s1, s2, s3, s4, s5, s6, s7⟩ := id h2
  have c1 := cn_X10_read_2 E zh za zf zc zm zz _ _ zw s3 s1 s6 zF.1
  have eB : rdB (zh.2.1 73 2) za zf.toInt (zh.2.1 74 2).toNatClampNeg = rdB (if zh.2.1 45 1 = 0 then -4 else zh.2.1 45 2) za zf.toInt zz := by
    rw [s5, s2, nI_clamp (by omega)]
  have eG : ∀ zi : Nat, (rdB (if zh.2.1 45 1 = 0 then -4 else zh.2.1 45 2) za zf.toInt zz) zi = 0 → (fun zj : Nat => zh.2.1 75 (64 * 2 + (zf.toInt + (zj : Nat)).toNat)) zi = (fun zj : Nat => zh.2.1 46 (zf.toInt + (zj : Nat)).toNat) zi := by
    intro zi z
    obtain ⟨y1, y2, y3, y4⟩ := rdB_0 z
    exact (s7 _ (by omega)).symm
  have eR := rdF_cong eG zm.toNatClampNeg 0
  obtain ⟨zR, eR0⟩ : ∃ zR, zR = rdF (rdB (if zh.2.1 45 1 = 0 then -4 else zh.2.1 45 2) za zf.toInt zz) (fun zj : Nat => zh.2.1 46 (zf.toInt + (zj : Nat)).toNat) zm.toNatClampNeg 0 := ⟨_, rfl⟩
  have eO := rd_ok (zb := rdB (if zh.2.1 45 1 = 0 then -4 else zh.2.1 45 2) za zf.toInt zz) (zg := (fun zj : Nat => zh.2.1 46 (zf.toInt + (zj : Nat)).toNat)) zm.toNatClampNeg 0
  rw [← eR0] at c1 eR eO
  by_cases zC : ((0 ≤ za ∧ za ≤ 2) ∧ ¬ zm < 0 ∧ ¬ zc < 0 ∧ zc.toInt + zm.toInt ≤ 64) ∧ zR.2.2 = false
  · refine ⟨_, c1, fun zr g1 z1 => ⟨_, z1.1, ?_⟩⟩
    obtain ⟨-, z2, -⟩ := z1
    obtain ⟨z3, z41, z42, z43, z44, z45, z46, z5, zq, q1, q2, q3⟩ := z2 zC
    have e69 : g1.2.1 69 = zh.2.1 69 := z43 69 (by omega) (by omega) (by omega)
    have e73 : g1.2.1 73 = zh.2.1 73 := z43 73 (by omega) (by omega) (by omega)
    have e74 : g1.2.1 74 = zh.2.1 74 := z43 74 (by omega) (by omega) (by omega)
    have e75 : g1.2.1 75 = zh.2.1 75 := z43 75 (by omega) (by omega) (by omega)
    have e49 : g1.2.1 49 = zh.2.1 49 := z43 49 (by omega) (by omega) (by omega)
    have l49 : g1.2.2.1 49 = zh.2.2.1 49 := z44 49 (by omega) (by omega)
    have zw1 : WF g1 := by unfold WF at zw ⊢; rw [z41, z42]; exact zw
    have c2 := cn_X11_read E g1 2 za zf zc zm zw1 (by rw [e74]; exact zG)
    have zC1 : (0 : Int32) ≤ 2 ∧ (2 : Int32) ≤ 3 ∧ True := ⟨zk.1, zk.2, trivial⟩
    have zC2 : ((0 : Int32) ≤ 2 ∧ (2 : Int32) ≤ 3) ∧ (0 ≤ za ∧ za ≤ 2) ∧ ¬ zm < 0 ∧ ¬ zc < 0 ∧ zc.toInt + zm.toInt ≤ 64 := ⟨zk, zC.1⟩
    have zC3 : (((0 : Int32) ≤ 2 ∧ (2 : Int32) ≤ 3) ∧ (0 ≤ za ∧ za ≤ 2) ∧ ¬ zm < 0 ∧ ¬ zc < 0 ∧ zc.toInt + zm.toInt ≤ 64) ∧ zR.2.2 = false := ⟨zC2, zC.2⟩
    rw [show (2 : Int32).toNatClampNeg = 2 from rfl, e73, e74, e75, e69, e49, l49, eB, eR, if_pos zC2, if_pos zC3] at c2
    refine ⟨_, zw1, c2, fun zy g2 z6 => ⟨by rw [z6.1, if_pos zC.1], ?_⟩⟩
    obtain ⟨-, rfl⟩ := z6
    obtain ⟨y1, y2⟩ := cl_le (zx := zm) (za := 64) ⟨(i_lt2 _ _).mp zC.1.2.1, by
      have z7 := zC.1.2.2.2
      have z8 := zC.1.2.2.1
      simp only [i_lt, i_le] at z8 ⊢
      have z9 : (0 : Int32).toInt = 0 := rfl
      show zm.toInt ≤ 64
      omega⟩ (by decide)
    obtain ⟨y3, y4⟩ := cl_le (zx := zc) (za := 64) ⟨(i_lt2 _ _).mp zC.1.2.2.1, by
      have z7 := zC.1.2.2.2
      have z8 := zC.1.2.1
      simp only [i_lt, i_le] at z8 ⊢
      have z9 : (0 : Int32).toInt = 0 := rfl
      show zc.toInt ≤ 64
      omega⟩ (by decide)
    have y5 : zc.toNatClampNeg + zm.toNatClampNeg ≤ 64 := by
      have z7 := zC.1.2.2.2
      rw [y4, y2, nI_toInt (by omega), nI_toInt (by omega)] at z7
      omega
    have eW : rdW (zh.2.1 69) (fun zj : Nat => zh.2.1 75 (64 * 2 + (zf.toInt + (zj : Nat)).toNat)) zc.toNatClampNeg zR.2.1 zm.toNatClampNeg = rdW (zh.2.1 69) (fun zj : Nat => zh.2.1 46 (zf.toInt + (zj : Nat)).toNat) zc.toNatClampNeg zR.2.1 zm.toNatClampNeg := rdW_cong (fun zi hz => eG zi (eO.2.2 zi (Nat.zero_le _) hz).1) _
    refine flo_i (h1 := g1) (zt := zR.1) (zq := zq) hi hn z41 z42 (fun zk a1 a2 a3 a4 => z43 zk a1 a2 a3) z5 (fun zk a1 a2 a3 => z44 zk a1 a2) rfl rfl (fun zk a1 a2 a3 a4 a5 => ?_) (fun zj a1 a2 a3 a4 a5 => ?_) rfl (fun zk a1 => ?_) ?_ ?_ ?_ ?_ (by omega) q2 ?_
    · rw [sI_ne _ _ a1]
      exact sI_ne _ _ a2
    · rw [sI_at, e49]
      exact if_neg a5
    · exact sL_ne _ _ a1
    · show FLz (rdW (zh.2.1 69) (fun zj : Nat => zh.2.1 75 (64 * 2 + (zf.toInt + (zj : Nat)).toNat)) zc.toNatClampNeg zR.2.1 zm.toNatClampNeg) (rdL (zh.2.2.1 49 37) zc.toNatClampNeg zm.toNatClampNeg) g1
      rw [eW]
      exact z3
    · rw [z45 6 (by omega)]
      exact zF.2.1
    · rw [z45 6 (by omega)]
      exact zF.2.2.1
    · intro zj hj
      show lbt (rdL (zh.2.2.1 49 37) zc.toNatClampNeg zm.toNatClampNeg) zj = true → ¬ rdW (zh.2.1 69) _ zc.toNatClampNeg zR.2.1 zm.toNatClampNeg zj = -1
      rw [rdL_bt _ _ _ y5 zj hj, rdW_at, Bool.and_eq_true]
      rintro ⟨z7, z8⟩
      have z9 : ¬ (zc.toNatClampNeg ≤ zj ∧ zj < zc.toNatClampNeg + zm.toNatClampNeg) := fun y => by rw [decide_eq_true y] at z8; exact absurd z8 (by decide)
      rw [if_neg z9]
      exact zF.2.2.2.1 zj hj z7
    · intro z zj hj
      show rdW (zh.2.1 69) (fun zj : Nat => zh.2.1 75 (64 * 2 + (zf.toInt + (zj : Nat)).toNat)) zc.toNatClampNeg zR.2.1 zm.toNatClampNeg zj = _
      rw [eW, q3 z]
  · refine ⟨_, c1, fun zr g1 z1 => ⟨_, z1.1, ?_⟩⟩
    obtain ⟨-, -, z2⟩ := z1
    have e1 := z2 zC
    subst e1
    have c2 := cn_X11_read E g1 2 za zf zc zm zw zG
    rw [show (2 : Int32).toNatClampNeg = 2 from rfl, eB, eR, if_neg (show ¬ ((((0 : Int32) ≤ 2 ∧ (2 : Int32) ≤ 3) ∧ (0 ≤ za ∧ za ≤ 2) ∧ ¬ zm < 0 ∧ ¬ zc < 0 ∧ zc.toInt + zm.toInt ≤ 64) ∧ zR.2.2 = false) from fun z => zC ⟨z.1.2, z.2⟩)] at c2
    refine ⟨_, zw, c2, fun zy g2 z6 => ⟨?_, by rw [z6.2]; exact InV_s hi⟩⟩
    rw [z6.1]
    by_cases y : (0 ≤ za ∧ za ≤ 2) ∧ ¬ zm < 0 ∧ ¬ zc < 0 ∧ zc.toInt + zm.toInt ≤ 64
    · rw [if_pos (show ((0 : Int32) ≤ 2 ∧ (2 : Int32) ≤ 3) ∧ (0 ≤ za ∧ za ≤ 2) ∧ ¬ zm < 0 ∧ ¬ zc < 0 ∧ zc.toInt + zm.toInt ≤ 64 from ⟨zk, y⟩), if_pos y]
    · rw [if_neg (fun z => y z.2), if_neg y]
theorem st_read_3 (E : ME) {zn : Nat} {zh : AH} (hi : InV zn zh) (hn : zn ≤ 512) (za zf zc zm : Int32) : StI E zn mX10_read mX11_read 3 1 [.int 3, .int za, .int zf, .int zc, .int zm] zh := by
  obtain ⟨zw, zT, zS, zF, zB, ⟨h0, h1, h2, h3⟩, zX⟩ := id hi
  have zG : ∀ zj : Nat, zj < 4 → ∃ zl : Nat, zl ≤ 64 ∧ zh.2.1 74 zj = nI zl := by
    intro zj hj
    rcases (by omega : zj = 0 ∨ zj = 1 ∨ zj = 2 ∨ zj = 3) with rfl | rfl | rfl | rfl
    · obtain ⟨zu, u1, u2, -⟩ := h0; exact ⟨zu, u1, u2⟩
    · obtain ⟨zu, u1, u2, -⟩ := h1; exact ⟨zu, u1, u2⟩
    · obtain ⟨zu, u1, u2, -⟩ := h2; exact ⟨zu, u1, u2⟩
    · obtain ⟨zu, u1, u2, -⟩ := h3; exact ⟨zu, u1, u2⟩
  have zk : (0 : Int32) ≤ 3 ∧ (3 : Int32) ≤ 3 := by decide
  obtain ⟨zz, s1, s2, s3, s4, s5, s6, s7⟩ := id h3
  have c1 := cn_X10_read_3 E zh za zf zc zm zz _ _ zw s3 s1 s6 zF.1
  have eB : rdB (zh.2.1 73 3) za zf.toInt (zh.2.1 74 3).toNatClampNeg = rdB (if zh.2.1 47 1 = 0 then -4 else zh.2.1 47 2) za zf.toInt zz := by
    rw [s5, s2, nI_clamp (by omega)]
  have eG : ∀ zi : Nat, (rdB (if zh.2.1 47 1 = 0 then -4 else zh.2.1 47 2) za zf.toInt zz) zi = 0 → (fun zj : Nat => zh.2.1 75 (64 * 3 + (zf.toInt + (zj : Nat)).toNat)) zi = (fun zj : Nat => zh.2.1 48 (zf.toInt + (zj : Nat)).toNat) zi := by
    intro zi z
    obtain ⟨y1, y2, y3, y4⟩ := rdB_0 z
    exact (s7 _ (by omega)).symm
  have eR := rdF_cong eG zm.toNatClampNeg 0
  obtain ⟨zR, eR0⟩ : ∃ zR, zR = rdF (rdB (if zh.2.1 47 1 = 0 then -4 else zh.2.1 47 2) za zf.toInt zz) (fun zj : Nat => zh.2.1 48 (zf.toInt + (zj : Nat)).toNat) zm.toNatClampNeg 0 := ⟨_, rfl⟩
  have eO := rd_ok (zb := rdB (if zh.2.1 47 1 = 0 then -4 else zh.2.1 47 2) za zf.toInt zz) (zg := (fun zj : Nat => zh.2.1 48 (zf.toInt + (zj : Nat)).toNat)) zm.toNatClampNeg 0
  rw [← eR0] at c1 eR eO
  by_cases zC : ((0 ≤ za ∧ za ≤ 2) ∧ ¬ zm < 0 ∧ ¬ zc < 0 ∧ zc.toInt + zm.toInt ≤ 64) ∧ zR.2.2 = false
  · refine ⟨_, c1, fun zr g1 z1 => ⟨_, z1.1, ?_⟩⟩
    obtain ⟨-, z2, -⟩ := z1
    obtain ⟨z3, z41, z42, z43, z44, z45, z46, z5, zq, q1, q2, q3⟩ := z2 zC
    have e69 : g1.2.1 69 = zh.2.1 69 := z43 69 (by omega) (by omega) (by omega)
    have e73 : g1.2.1 73 = zh.2.1 73 := z43 73 (by omega) (by omega) (by omega)
    have e74 : g1.2.1 74 = zh.2.1 74 := z43 74 (by omega) (by omega) (by omega)
    have e75 : g1.2.1 75 = zh.2.1 75 := z43 75 (by omega) (by omega) (by omega)
    have e49 : g1.2.1 49 = zh.2.1 49 := z43 49 (by omega) (by omega) (by omega)
    have l49 : g1.2.2.1 49 = zh.2.2.1 49 := z44 49 (by omega) (by omega)
    have zw1 : WF g1 := by unfold WF at zw ⊢; rw [z41, z42]; exact zw
    have c2 := cn_X11_read E g1 3 za zf zc zm zw1 (by rw [e74]; exact zG)
    have zC1 : (0 : Int32) ≤ 3 ∧ (3 : Int32) ≤ 3 ∧ True := ⟨zk.1, zk.2, trivial⟩
    have zC2 : ((0 : Int32) ≤ 3 ∧ (3 : Int32) ≤ 3) ∧ (0 ≤ za ∧ za ≤ 2) ∧ ¬ zm < 0 ∧ ¬ zc < 0 ∧ zc.toInt + zm.toInt ≤ 64 := ⟨zk, zC.1⟩
    have zC3 : (((0 : Int32) ≤ 3 ∧ (3 : Int32) ≤ 3) ∧ (0 ≤ za ∧ za ≤ 2) ∧ ¬ zm < 0 ∧ ¬ zc < 0 ∧ zc.toInt + zm.toInt ≤ 64) ∧ zR.2.2 = false := ⟨zC2, zC.2⟩
    rw [show (3 : Int32).toNatClampNeg = 3 from rfl, e73, e74, e75, e69, e49, l49, eB, eR, if_pos zC2, if_pos zC3] at c2
    refine ⟨_, zw1, c2, fun zy g2 z6 => ⟨by rw [z6.1, if_pos zC.1], ?_⟩⟩
    obtain ⟨-, rfl⟩ := z6
    obtain ⟨y1, y2⟩ := cl_le (zx := zm) (za := 64) ⟨(i_lt2 _ _).mp zC.1.2.1, by
      have z7 := zC.1.2.2.2
      have z8 := zC.1.2.2.1
      simp only [i_lt, i_le] at z8 ⊢
      have z9 : (0 : Int32).toInt = 0 := rfl
      show zm.toInt ≤ 64
      omega⟩ (by decide)
    obtain ⟨y3, y4⟩ := cl_le (zx := zc) (za := 64) ⟨(i_lt2 _ _).mp zC.1.2.2.1, by
      have z7 := zC.1.2.2.2
      have z8 := zC.1.2.1
      simp only [i_lt, i_le] at z8 ⊢
      have z9 : (0 : Int32).toInt = 0 := rfl
      show zc.toInt ≤ 64
      omega⟩ (by decide)
    have y5 : zc.toNatClampNeg + zm.toNatClampNeg ≤ 64 := by
      have z7 := zC.1.2.2.2
      rw [y4, y2, nI_toInt (by omega), nI_toInt (by omega)] at z7
      omega
    have eW : rdW (zh.2.1 69) (fun zj : Nat => zh.2.1 75 (64 * 3 + (zf.toInt + (zj : Nat)).toNat)) zc.toNatClampNeg zR.2.1 zm.toNatClampNeg = rdW (zh.2.1 69) (fun zj : Nat => zh.2.1 48 (zf.toInt + (zj : Nat)).toNat) zc.toNatClampNeg zR.2.1 zm.toNatClampNeg := rdW_cong (fun zi hz => eG zi (eO.2.2 zi (Nat.zero_le _) hz).1) _
    refine flo_i (h1 := g1) (zt := zR.1) (zq := zq) hi hn z41 z42 (fun zk a1 a2 a3 a4 => z43 zk a1 a2 a3) z5 (fun zk a1 a2 a3 => z44 zk a1 a2) rfl rfl (fun zk a1 a2 a3 a4 a5 => ?_) (fun zj a1 a2 a3 a4 a5 => ?_) rfl (fun zk a1 => ?_) ?_ ?_ ?_ ?_ (by omega) q2 ?_
    · rw [sI_ne _ _ a1]
      exact sI_ne _ _ a2
    · rw [sI_at, e49]
      exact if_neg a5
    · exact sL_ne _ _ a1
    · show FLz (rdW (zh.2.1 69) (fun zj : Nat => zh.2.1 75 (64 * 3 + (zf.toInt + (zj : Nat)).toNat)) zc.toNatClampNeg zR.2.1 zm.toNatClampNeg) (rdL (zh.2.2.1 49 37) zc.toNatClampNeg zm.toNatClampNeg) g1
      rw [eW]
      exact z3
    · rw [z45 6 (by omega)]
      exact zF.2.1
    · rw [z45 6 (by omega)]
      exact zF.2.2.1
    · intro zj hj
      show lbt (rdL (zh.2.2.1 49 37) zc.toNatClampNeg zm.toNatClampNeg) zj = true → ¬ rdW (zh.2.1 69) _ zc.toNatClampNeg zR.2.1 zm.toNatClampNeg zj = -1
      rw [rdL_bt _ _ _ y5 zj hj, rdW_at, Bool.and_eq_true]
      rintro ⟨z7, z8⟩
      have z9 : ¬ (zc.toNatClampNeg ≤ zj ∧ zj < zc.toNatClampNeg + zm.toNatClampNeg) := fun y => by rw [decide_eq_true y] at z8; exact absurd z8 (by decide)
      rw [if_neg z9]
      exact zF.2.2.2.1 zj hj z7
    · intro z zj hj
      show rdW (zh.2.1 69) (fun zj : Nat => zh.2.1 75 (64 * 3 + (zf.toInt + (zj : Nat)).toNat)) zc.toNatClampNeg zR.2.1 zm.toNatClampNeg zj = _
      rw [eW, q3 z]
  · refine ⟨_, c1, fun zr g1 z1 => ⟨_, z1.1, ?_⟩⟩
    obtain ⟨-, -, z2⟩ := z1
    have e1 := z2 zC
    subst e1
    have c2 := cn_X11_read E g1 3 za zf zc zm zw zG
    rw [show (3 : Int32).toNatClampNeg = 3 from rfl, eB, eR, if_neg (show ¬ ((((0 : Int32) ≤ 3 ∧ (3 : Int32) ≤ 3) ∧ (0 ≤ za ∧ za ≤ 2) ∧ ¬ zm < 0 ∧ ¬ zc < 0 ∧ zc.toInt + zm.toInt ≤ 64) ∧ zR.2.2 = false) from fun z => zC ⟨z.1.2, z.2⟩)] at c2
    refine ⟨_, zw, c2, fun zy g2 z6 => ⟨?_, by rw [z6.2]; exact InV_s hi⟩⟩
    rw [z6.1]
    by_cases y : (0 ≤ za ∧ za ≤ 2) ∧ ¬ zm < 0 ∧ ¬ zc < 0 ∧ zc.toInt + zm.toInt ≤ 64
    · rw [if_pos (show ((0 : Int32) ≤ 3 ∧ (3 : Int32) ≤ 3) ∧ (0 ≤ za ∧ za ≤ 2) ∧ ¬ zm < 0 ∧ ¬ zc < 0 ∧ zc.toInt + zm.toInt ≤ 64 from ⟨zk, y⟩), if_pos y]
    · rw [if_neg (fun z => y z.2), if_neg y]
theorem st_read (E : ME) {zn : Nat} {zh : AH} (hi : InV zn zh) (hn : zn ≤ 512) (zk za zf zc zm : Int32) : StI E zn mX10_read mX11_read 3 1 [.int zk, .int za, .int zf, .int zc, .int zm] zh := by
  by_cases zC : 0 ≤ zk ∧ zk ≤ 3
  · rcases v_3.mp zC with rfl | rfl | rfl | rfl
    · exact st_read_0 E hi hn za zf zc zm
    · exact st_read_1 E hi hn za zf zc zm
    · exact st_read_2 E hi hn za zf zc zm
    · exact st_read_3 E hi hn za zf zc zm
  · obtain ⟨zw, zT, zS, zF, zB, ⟨h0, h1, h2, h3⟩, zX⟩ := id hi
    have zG : ∀ zj : Nat, zj < 4 → ∃ zl : Nat, zl ≤ 64 ∧ zh.2.1 74 zj = nI zl := by
      intro zj hj
      rcases (by omega : zj = 0 ∨ zj = 1 ∨ zj = 2 ∨ zj = 3) with rfl | rfl | rfl | rfl
      · obtain ⟨zu, u1, u2, -⟩ := h0; exact ⟨zu, u1, u2⟩
      · obtain ⟨zu, u1, u2, -⟩ := h1; exact ⟨zu, u1, u2⟩
      · obtain ⟨zu, u1, u2, -⟩ := h2; exact ⟨zu, u1, u2⟩
      · obtain ⟨zu, u1, u2, -⟩ := h3; exact ⟨zu, u1, u2⟩
    have c2 := cn_X11_read E zh zk za zf zc zm hi.1 zG
    rw [if_neg (fun z => zC z.1), if_neg (fun z => zC z.1.1)] at c2
    exact StI_mk (cn_X10_readB E zh zk za zf zc zm hi.1 zC) hi.1 c2 rfl (InV_s hi)
