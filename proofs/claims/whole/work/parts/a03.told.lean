theorem v_1 {zv : Int32} : (0 ≤ zv ∧ zv ≤ 1) ↔ (zv = 0 ∨ zv = 1) := by
  constructor
  · rintro ⟨z1, z2⟩
    obtain ⟨zk, y1, rfl⟩ := nat_of (a := 1) z1 z2 (by decide)
    rcases (by omega : zk = 0 ∨ zk = 1) with rfl | rfl
    · exact Or.inl rfl
    · exact Or.inr rfl
  · rintro (rfl | rfl) <;> decide
theorem v_2 {zv : Int32} : (0 ≤ zv ∧ zv ≤ 2) ↔ (zv = 0 ∨ zv = 1 ∨ zv = 2) := by
  constructor
  · rintro ⟨z1, z2⟩
    obtain ⟨zk, y1, rfl⟩ := nat_of (a := 2) z1 z2 (by decide)
    rcases (by omega : zk = 0 ∨ zk = 1 ∨ zk = 2) with rfl | rfl | rfl
    · exact Or.inl rfl
    · exact Or.inr (Or.inl rfl)
    · exact Or.inr (Or.inr rfl)
  · rintro (rfl | rfl | rfl) <;> decide
theorem v_3 {zv : Int32} : (0 ≤ zv ∧ zv ≤ 3) ↔ (zv = 0 ∨ zv = 1 ∨ zv = 2 ∨ zv = 3) := by
  constructor
  · rintro ⟨z1, z2⟩
    obtain ⟨zk, y1, rfl⟩ := nat_of (a := 3) z1 z2 (by decide)
    rcases (by omega : zk = 0 ∨ zk = 1 ∨ zk = 2 ∨ zk = 3) with rfl | rfl | rfl | rfl
    · exact Or.inl rfl
    · exact Or.inr (Or.inl rfl)
    · exact Or.inr (Or.inr (Or.inl rfl))
    · exact Or.inr (Or.inr (Or.inr rfl))
  · rintro (rfl | rfl | rfl | rfl) <;> decide
theorem eq_told {zt : PSt} {zh : AH} (zE : ENz zt zh) (zv : Int32) : (if zv = 0 then zh.2.1 49 14 else if zv = 1 then zh.2.1 49 16 else if zv = 2 then zh.2.1 49 17 else if 0 ≤ zv - 10 ∧ zv - 10 ≤ 5 then zh.2.1 57 (zv - 10).toNatClampNeg else if 0 ≤ zv - 20 ∧ zv - 20 ≤ 5 then zh.2.1 58 (zv - 20).toNatClampNeg else -1) = (if zv = 0 then nI (zt.1 1) else if zv = 1 then nI (zt.1 2) else if zv = 2 then nI (zt.1 3) else if 0 ≤ zv - 10 ∧ zv - 10 ≤ 5 then nI (zt.2 4 (zv - 10).toNatClampNeg) else if 0 ≤ zv - 20 ∧ zv - 20 ≤ 5 then nI (zt.2 5 (zv - 20).toNatClampNeg) else -1) := by
  rw [zE.1, zE.2.1, zE.2.2.1]
  by_cases z1 : 0 ≤ zv - 10 ∧ zv - 10 ≤ 5
  · rw [if_pos z1, if_pos z1, (zE.2.2.2.2.1 _ (Nat.lt_of_le_of_lt (cl_le (za := 5) z1 (by decide)).1 (by decide))).1]
  · rw [if_neg z1, if_neg z1]
    by_cases z2 : 0 ≤ zv - 20 ∧ zv - 20 ≤ 5
    · rw [if_pos z2, if_pos z2, (zE.2.2.2.2.1 _ (Nat.lt_of_le_of_lt (cl_le (za := 5) z2 (by decide)).1 (by decide))).2]
    · rw [if_neg z2, if_neg z2]
theorem st_told (E : ME) {zn : Nat} {zh : AH} (hi : InV zn zh) (za : Int32) : StI E zn mX10_told mX11_told 2 2 [.int za] zh := by
  obtain ⟨zw, zT, ⟨zt, zO, zE, zY, zQ, zK⟩, zF, zB, zH, zX⟩ := id hi
  rcases zY with ⟨y1, y2, y3⟩ | ⟨y1, y2, y3⟩
  · exact StI_r hi (cn_X10_told_3 E zh zt za zw y1 zO y2) (cn_X11_told E zh za zw) (eq_told zE za)
  · exact StI_r hi (cn_X10_told_11 E zh zt za zw y1 zO y2) (cn_X11_told E zh za zw) (eq_told zE za)
theorem eq_pattern {zt : PSt} {zh : AH} (zO : POK zt) (zE : ENz zt zh) (zp zw ze : Int32) : (if (0 ≤ zp ∧ zp ≤ zh.2.1 49 16 - 1) ∧ (0 ≤ zw ∧ zw ≤ 7) ∧ (0 ≤ ze ∧ ze ≤ 15) then zh.2.1 56 (16 * zp.toNatClampNeg + srN 4 zw.toNatClampNeg ze.toNatClampNeg) else -1) = (if ptg zt zp ∧ (0 ≤ zw ∧ zw ≤ 7) ∧ (0 ≤ ze ∧ ze ≤ 15) then clV (zt.2 6 (16 * zp.toNatClampNeg + srN 4 zw.toNatClampNeg ze.toNatClampNeg)) else -1) := by
  rw [zE.2.1]
  by_cases z1 : (0 ≤ zp ∧ zp ≤ nI (zt.1 2) - 1) ∧ (0 ≤ zw ∧ zw ≤ 7) ∧ (0 ≤ ze ∧ ze ≤ 15)
  · rw [if_pos z1, if_pos z1]
    obtain ⟨zk, y1, rfl⟩ := th_nat z1.1 (Nat.le_trans zO.2.1 (by decide))
    have y2 := (cl_le (za := 7) z1.2.1 (by decide)).1
    have y3 := (cl_le (za := 15) z1.2.2 (by decide)).1
    have y4 := (sr4 zw.toNatClampNeg (by omega) ze.toNatClampNeg (by omega)).2
    have y5 := zO.2.1
    rw [nI_clamp (by omega)]
    exact zE.2.2.2.2.2 _ (by omega)
  · rw [if_neg z1, if_neg z1]
theorem st_pattern (E : ME) {zn : Nat} {zh : AH} (hi : InV zn zh) (za zb zc : Int32) : StI E zn mX10_pattern mX11_pattern 3 2 [.int za, .int zb, .int zc] zh := by
  obtain ⟨zw, zT, ⟨zt, zO, zE, zY, zQ, zK⟩, zF, zB, zH, zX⟩ := id hi
  rcases zY with ⟨y1, y2, y3⟩ | ⟨y1, y2, y3⟩
  · exact StI_r hi (cn_X10_pattern_3 E zh zt za zb zc zw y1 zO y2) (cn_X11_pattern E zh za zb zc (zt.1 2) zw zE.2.1 zO.2.1) (eq_pattern zO zE za zb zc)
  · exact StI_r hi (cn_X10_pattern_11 E zh zt za zb zc zw y1 zO y2) (cn_X11_pattern E zh za zb zc (zt.1 2) zw zE.2.1 zO.2.1) (eq_pattern zO zE za zb zc)
theorem bf_eq {zt : PSt} {zh : AH} (zQ : SQz zt zh zh) {zk : Nat} (hk : zk < zt.1 1) : befF (zt.1 1) (zh.2.1 55) (zh.2.1 66) zk = zh.2.1 22 zk :=
  (bef_cong (fun _ _ => rfl) zk hk).trans (zQ.2.2.1 zk hk).symm
theorem Ms_if {zb : AH} {zf : Nat → Int32} {zp : Prop} [Decidable zp] {zg : AH} (zx : zg = if zp then sI zb 66 zf else zb) : Mscr zb zg := by
  by_cases z : zp
  · rw [if_pos z] at zx
    rw [zx]
    exact Ms_66 _ _
  · rw [if_neg z] at zx
    rw [zx]
    exact Ms_0 _
theorem eq_thing {zt : PSt} {zh : AH} (zO : POK zt) (zE : ENz zt zh) (zQ : SQz zt zh zh) (za zv : Int32) : (if (0 ≤ za ∧ za ≤ zh.2.1 49 14 - 1) ∧ (0 ≤ zv ∧ zv ≤ 3) then (if zv = 0 then zh.2.1 53 za.toNatClampNeg else if zv = 1 then zh.2.1 54 za.toNatClampNeg else if zv = 2 then zh.2.1 55 za.toNatClampNeg else befF (zt.1 1) (zh.2.1 55) (zh.2.1 66) za.toNatClampNeg) else -1) = (if thg zt za then (if zv = 0 then nI (zt.2 0 za.toNatClampNeg) else if zv = 1 then nI (zt.2 1 za.toNatClampNeg) else if zv = 2 then nI (zt.2 2 za.toNatClampNeg ||| zt.2 3 za.toNatClampNeg) else if zv = 3 then zh.2.1 22 za.toNatClampNeg else -1) else -1) := by
  rw [zE.1]
  by_cases z1 : 0 ≤ za ∧ za ≤ nI (zt.1 1) - 1
  · obtain ⟨zk, y1, rfl⟩ := th_nat z1 (Nat.le_trans zO.1 (by decide))
    have y0 := zO.1
    rw [if_pos z1, nI_clamp (by omega), bf_eq zQ y1, (zE.2.2.2.1 zk y1).1, (zE.2.2.2.1 zk y1).2.1, (zE.2.2.2.1 zk y1).2.2]
    by_cases z2 : 0 ≤ zv ∧ zv ≤ 3
    · rw [if_pos ⟨z1, z2⟩]
      rcases v_3.mp z2 with rfl | rfl | rfl | rfl <;> rfl
    · rw [if_neg (fun z => z2 z.2), if_neg (fun z => z2 (v_3.mpr (Or.inl z))), if_neg (fun z => z2 (v_3.mpr (Or.inr (Or.inl z)))), if_neg (fun z => z2 (v_3.mpr (Or.inr (Or.inr (Or.inl z))))), if_neg (fun z => z2 (v_3.mpr (Or.inr (Or.inr (Or.inr z)))))]
  · rw [if_neg z1, if_neg (fun z => z1 z.1)]
theorem st_thing (E : ME) {zn : Nat} {zh : AH} (hi : InV zn zh) (za zb : Int32) : StI E zn mX10_thing mX11_thing 3 2 [.int za, .int zb] zh := by
  obtain ⟨zw, zT, ⟨zt, zO, zE, zY, zQ, zK⟩, zF, zB, zH, zX⟩ := id hi
  rcases zY with ⟨y1, y2, y3⟩ | ⟨y1, y2, y3⟩
  · exact StI_q hi (cn_X10_thing_3 E zh zt za zb (zt.1 1) zw y1 zO y2 zQ.1 zO.1 rfl) (cn_X11_thing E zh za zb (zt.1 1) zw zE.1 zO.1) (eq_thing zO zE zQ za zb) (fun zg z => Ms_if z)
  · exact StI_q hi (cn_X10_thing_11 E zh zt za zb (zt.1 1) zw y1 zO y2 zQ.1 zO.1 rfl) (cn_X11_thing E zh za zb (zt.1 1) zw zE.1 zO.1) (eq_thing zO zE zQ za zb) (fun zg z => Ms_if z)
theorem eq_ahead {zt : PSt} {zh : AH} (zO : POK zt) (zE : ENz zt zh) (zQ : SQz zt zh zh) (za zb : Int32) : (if (0 ≤ za ∧ za ≤ zh.2.1 49 14 - 1) ∧ (0 ≤ zb ∧ zb ≤ zh.2.1 49 14 - 1) ∧ ¬ za = zb then (befF (zt.1 1) (zh.2.1 55) (zh.2.1 66) zb.toNatClampNeg >>> (za &&& 31)) &&& 1 else -1) = (if thg zt za ∧ thg zt zb ∧ ¬ za = zb then ((zh.2.1 22 zb.toNatClampNeg) >>> (za &&& 31)) &&& 1 else -1) := by
  rw [zE.1]
  by_cases z1 : (0 ≤ za ∧ za ≤ nI (zt.1 1) - 1) ∧ (0 ≤ zb ∧ zb ≤ nI (zt.1 1) - 1) ∧ ¬ za = zb
  · rw [if_pos z1, if_pos z1]
    obtain ⟨zk, y1, y2⟩ := th_nat z1.2.1 (Nat.le_trans zO.1 (by decide))
    have y0 := zO.1
    rw [y2, nI_clamp (by omega), bf_eq zQ y1]
  · rw [if_neg z1, if_neg z1]
theorem st_ahead (E : ME) {zn : Nat} {zh : AH} (hi : InV zn zh) (za zb : Int32) : StI E zn mX10_ahead mX11_ahead 3 2 [.int za, .int zb] zh := by
  obtain ⟨zw, zT, ⟨zt, zO, zE, zY, zQ, zK⟩, zF, zB, zH, zX⟩ := id hi
  rcases zY with ⟨y1, y2, y3⟩ | ⟨y1, y2, y3⟩
  · exact StI_q hi (cn_X10_ahead_3 E zh zt za zb (zt.1 1) zw y1 zO y2 zQ.1 zO.1 rfl) (cn_X11_ahead E zh za zb (zt.1 1) zw zE.1 zO.1) (eq_ahead zO zE zQ za zb) (fun zg z => Ms_if z)
  · exact StI_q hi (cn_X10_ahead_11 E zh zt za zb (zt.1 1) zw y1 zO y2 zQ.1 zO.1 rfl) (cn_X11_ahead E zh za zb (zt.1 1) zw zE.1 zO.1) (eq_ahead zO zE zQ za zb) (fun zg z => Ms_if z)
theorem rs_cong {zf zg : Nat → Int32} (zx : Int32) : ∀ zm, (∀ zj, zj < zm → zf zj = zg zj) → rsF zf zx zm = rsF zg zx zm
  | 0, _ => by rw [rsF, rsF]
  | zm + 1, h => by
    rw [rsF, rsF, rs_cong zx zm (fun zj hj => h zj (by omega)), h zm (by omega)]
theorem rgo_cong {zf zg : Nat → Int32} {zm : Nat} (h : ∀ zj, zj < zm → zf zj = zg zj) (zt : Int32) : ∀ zk zn zx, rgo zf zm zt zk zn zx = rgo zg zm zt zk zn zx
  | 0, _, _ => by rw [rgo, rgo]
  | zk + 1, zn, zx => by
    rw [rgo, rgo, rs_cong zx zm h, rgo_cong h zt zk]
theorem lr_cong {zf zg : Nat → Int32} : ∀ zm, (∀ zj, zj < zm → zf zj = zg zj) → lrF zf zm = lrF zg zm
  | 0, _ => by rw [lrF, lrF]
  | zm + 1, h => by
    rw [lrF, lrF, lr_cong zm (fun zj hj => h zj (by omega)), h zm (by omega)]
theorem bg_cong {zf zg : Nat → Int32} : ∀ zm, (∀ zj, zj < zm → zf zj = zg zj) → bgF zf zm = bgF zg zm
  | 0, _ => by rw [bgF, bgF]
  | zm + 1, h => by
    rw [bgF, bgF, bg_cong zm (fun zj hj => h zj (by omega)), h zm (by omega)]
theorem rg_eq {zt : PSt} {zh : AH} (zQ : SQz zt zh zh) : rgF (befF (zt.1 1) (zh.2.1 55) (zh.2.1 66)) (zt.1 1) = rgF (zh.2.1 22) (zt.1 1) :=
  rg_cong _ (fun zj hj => bf_eq zQ hj)
theorem st_rings (E : ME) {zn : Nat} {zh : AH} (hi : InV zn zh) (za : Int32) : StI E zn mX10_rings mX11_rings 3 1 [.int za] zh := by
  obtain ⟨zw, zT, ⟨zt, zO, zE, zY, zQ, zK⟩, zF, zB, zH, zX⟩ := id hi
  refine StI_q hi (cn_X10_rings E zh za (zt.1 1) zw zQ.1 zO.1) (cn_X11_rings E zh za (zt.1 1) zw zE.1 zO.1) ?_ (fun zg z => Ms_if z)
  rw [rg_eq zQ, lr_cong (zt.1 1) (fun zj hj => by rw [rgo_cong (fun zk hk => (zQ.2.1 zk hk).symm), ← zQ.2.1 zj hj])]
theorem st_begins (E : ME) {zn : Nat} {zh : AH} (hi : InV zn zh) (za : Int32) : StI E zn mX10_begins mX11_begins 3 1 [.int za] zh := by
  obtain ⟨zw, zT, ⟨zt, zO, zE, zY, zQ, zK⟩, zF, zB, zH, zX⟩ := id hi
  refine StI_q hi (cn_X10_begins E zh za (zt.1 1) zw zQ.1 zO.1) (cn_X11_begins E zh za (zt.1 1) zw zE.1 zO.1) ?_ (fun zg z => Ms_if z)
  rw [rg_eq zQ]
  by_cases z0 : za = 0
  · rw [if_pos (c := za = 0) z0, bg_cong (zt.1 1) (fun zj hj => by rw [if_pos z0, bf_eq zQ hj])]
  · rw [if_neg (c := za = 0) z0, bg_cong (zt.1 1) (fun zj hj => by rw [if_neg z0, bh_cong (nI zj) (zt.1 1) (fun zk hk => bf_eq zQ hk)])]
theorem BB_told {zt : PSt} {zh : AH} (zO : POK zt) (zE : ENz zt zh) : BBz (zh.2.1 55) (zt.1 1) := by
  intro zi zj hi hj hb
  rw [(zE.2.2.2.1 zi hi).2.2, bt_nI hj] at hb
  have z1 := zO.2.2.2.2.2.1 zi hi
  have z2 : zt.2 2 zi ||| zt.2 3 zi < 2 ^ zt.1 1 := Nat.or_lt_two_pow z1.2.2.1 z1.2.2.2
  rcases Nat.lt_or_ge zj (zt.1 1) with z | z
  · exact z
  · rw [Nat.testBit_lt_two_pow (Nat.lt_of_lt_of_le z2 (Nat.pow_le_pow_right (by decide) z))] at hb
    exact absurd hb (by decide)
theorem BB_22 {zt : PSt} {zh : AH} (zO : POK zt) (zE : ENz zt zh) (zQ : SQz zt zh zh) : BBz (zh.2.1 22) (zt.1 1) := by
  intro zi zj hi hj hb
  rw [← bf_eq zQ hi] at hb
  exact (bef_ok zO.1 (BB_told zO zE)).2 zi zj hi hj hb
theorem cnt_small {zx : Int32} (h : ∀ zj, zj < 32 → bt zx zj = true → zj < 16) : cntF zx 16 = bcI zx := by
  have z1 : zx = nI zx.toBitVec.toNat := by
    apply Int32.toBitVec_inj.mp
    apply BitVec.eq_of_toNat_eq
    rw [pk_tn zx.toBitVec.isLt]
  rw [z1]
  refine cnt_bc (Nat.lt_pow_two_of_testBit _ (fun zi hz => ?_))
  rcases Nat.lt_or_ge zi 32 with z | z
  · cases hc : zx.toBitVec.toNat.testBit zi with
    | false => rfl
    | true => exact absurd (h zi z (by unfold bt; rw [BitVec.getLsbD]; exact hc)) (by omega)
  · exact Nat.testBit_lt_two_pow (Nat.lt_of_lt_of_le zx.toBitVec.isLt (Nat.pow_le_pow_right (by decide) z))
theorem bh_bt (zf : Nat → Int32) (zt : Int32) : ∀ zm, zm ≤ 32 → ∀ zj, zj < 32 → bt (bhF zf zt zm) zj = true → zj < zm
  | 0, _, zj, hj, hb => by
    rw [bhF, b_0] at hb
    exact absurd hb (by decide)
  | zm + 1, hm, zj, hj, hb => by
    rw [bhF, b_or, Bool.or_eq_true] at hb
    rcases hb with hb | hb
    · have := bh_bt zf zt zm (by omega) zj hj hb
      omega
    · by_cases z : (zf zm >>> (zt &&& 31)) &&& 1 = 1
      · rw [if_pos z, bt_sh (by omega) zj hj, decide_eq_true_eq] at hb
        omega
      · rw [if_neg z, b_0] at hb
        exact absurd hb (by decide)
theorem eq_rank {zt : PSt} {zh : AH} (zO : POK zt) (zE : ENz zt zh) (zQ : SQz zt zh zh) (za zv : Int32) : (if (0 ≤ za ∧ za ≤ zh.2.1 49 14 - 1) ∧ (0 ≤ zv ∧ zv ≤ 1) then (if rgF (befF (zt.1 1) (zh.2.1 55) (zh.2.1 66)) (zt.1 1) = 0 then (if zv = 0 then cntF (befF (zt.1 1) (zh.2.1 55) (zh.2.1 66) za.toNatClampNeg) 16 else zh.2.1 49 14 - 1 - cntF (bhF (befF (zt.1 1) (zh.2.1 55) (zh.2.1 66)) za (zt.1 1)) 16) else -2) else -1) = (if thg zt za ∧ (0 ≤ zv ∧ zv ≤ 1) then (if rgF (zh.2.1 22) (zt.1 1) = 0 then (if zv = 0 then bcI (zh.2.1 22 za.toNatClampNeg) else nI (zt.1 1) - 1 - bcI (bhF (zh.2.1 22) za (zt.1 1))) else -2) else -1) := by
  rw [zE.1, rg_eq zQ]
  by_cases z1 : (0 ≤ za ∧ za ≤ nI (zt.1 1) - 1) ∧ (0 ≤ zv ∧ zv ≤ 1)
  · rw [if_pos z1, if_pos z1]
    obtain ⟨zk, y1, y2⟩ := th_nat z1.1 (Nat.le_trans zO.1 (by decide))
    have y0 := zO.1
    rw [bh_cong za (zt.1 1) (fun zk hk => bf_eq zQ hk), y2, nI_clamp (by omega), bf_eq zQ y1, cnt_small (fun zj h1 h2 => by have := BB_22 zO zE zQ zk zj y1 h1 h2; omega), cnt_small (fun zj h1 h2 => by have := bh_bt _ _ _ (by omega) zj h1 h2; omega)]
  · rw [if_neg z1, if_neg z1]
theorem st_rank (E : ME) {zn : Nat} {zh : AH} (hi : InV zn zh) (za zb : Int32) : StI E zn mX10_rank mX11_rank 3 2 [.int za, .int zb] zh := by
  obtain ⟨zw, zT, ⟨zt, zO, zE, zY, zQ, zK⟩, zF, zB, zH, zX⟩ := id hi
  rcases zY with ⟨y1, y2, y3⟩ | ⟨y1, y2, y3⟩
  · exact StI_q hi (cn_X10_rank_3 E zh zt za zb (zt.1 1) zw y1 zO y2 zQ.1 zO.1 rfl) (cn_X11_rank E zh za zb (zt.1 1) zw zE.1 zO.1) (eq_rank zO zE zQ za zb) (fun zg z => Ms_if z)
  · exact StI_q hi (cn_X10_rank_11 E zh zt za zb (zt.1 1) zw y1 zO y2 zQ.1 zO.1 rfl) (cn_X11_rank E zh za zb (zt.1 1) zw zE.1 zO.1) (eq_rank zO zE zQ za zb) (fun zg z => Ms_if z)
