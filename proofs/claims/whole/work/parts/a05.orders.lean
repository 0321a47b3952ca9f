theorem IvC_k {zn : Nat} {zf : Nat → Int32} {za zc : AH} (z1 : zc.2.1 25 7 = za.2.1 25 7) (z2 : zc.2.1 36 = za.2.1 36) (zh : IvC zn zf za) : IvC zn zf zc := by
  obtain ⟨zx, y1, y2, y3, y4⟩ := zh
  refine ⟨zx, y1, z1.trans y2, ?_, ?_⟩
  · rw [z2]; exact y3
  · rw [z1, z2]; exact fun z => PBw_c z2 (y4 z)
theorem IvF_k {zn : Nat} {za zb zc zd : AH} (zh : IvF zn za zb) (zk : KsF za zc) (zl : LsF zb zd) : IvF zn zc zd := by
  obtain ⟨k1, k2, k3, k4, k5, k6⟩ := zk
  obtain ⟨l1, l2, l3⟩ := zl
  obtain ⟨z1, z2, z3, z4, z5, z6⟩ := zh
  refine ⟨?_, by rw [k1]; exact z2, by rw [l2, k1]; exact z3, by rw [l3, l1]; exact z4, IMz_c k3 z5, ?_⟩
  · rw [l1, l3]; exact FLz_c k2 k5 k6 z1
  · rw [l1]; exact IvC_k (by rw [k1]) k4 z6
theorem StI_h {E : ME} {zn : Nat} {zM zR : MM} {zd ze : Nat} {zs : List Value} {zh h1 : AH} {zx zy : Int32} {zQ : AH → Prop} (c1 : Con E zM zd 0 0 (.ref 0 :: zs) zh (fun r h' => r = some (.int zx) ∧ h' = h1)) (hi : InV zn h1) (c2 : Con E zR ze 0 0 (.ref 49 :: zs) h1 (fun r h' => r = some (.int zy) ∧ zQ h')) (he : zy = zx) (hm : ∀ zg, zQ zg → Mscr h1 zg) : StI E zn zM zR zd ze zs zh := by
  refine ⟨_, c1, fun zv g1 z1 => ⟨zx, z1.1, ?_⟩⟩
  obtain ⟨-, rfl⟩ := z1
  exact ⟨_, hi.1, c2, fun zw g2 z2 => ⟨by rw [z2.1, he], Ms_i (hm g2 z2.2) hi⟩⟩
theorem StJ_h {E : ME} {zn : Nat} {zM zR : MM} {zd ze : Nat} {zs : List Value} {zh h1 : AH} {zx zy : Int64} {zQ : AH → Prop} (c1 : Con E zM zd 0 0 (.ref 0 :: zs) zh (fun r h' => r = some (.long zx) ∧ h' = h1)) (hi : InV zn h1) (c2 : Con E zR ze 0 0 (.ref 49 :: zs) h1 (fun r h' => r = some (.long zy) ∧ zQ h')) (he : zy = zx) (hm : ∀ zg, zQ zg → Mscr h1 zg) : StJ E zn zM zR zd ze zs zh := by
  refine ⟨_, c1, fun zv g1 z1 => ⟨zx, z1.1, ?_⟩⟩
  obtain ⟨-, rfl⟩ := z1
  exact ⟨_, hi.1, c2, fun zw g2 z2 => ⟨by rw [z2.1, he], Ms_i (hm g2 z2.2) hi⟩⟩
theorem cw_r {zh : AH} {zm zk : Nat} (h1 : zk ≠ 20) (h2 : zk ≠ 23) (h3 : zk ≠ 24) : (cwH zh zm).2.1 zk = zh.2.1 zk := by
  unfold cwH
  by_cases z : zh.2.1 20 5 = 0
  · rw [if_pos z, sI_ne _ _ h1, sI_ne _ _ h3, sI_ne _ _ h2]
  · rw [if_neg z]
theorem cw_p (zh : AH) (zm : Nat) : (cwH zh zm).2.2 = zh.2.2 := by
  unfold cwH
  by_cases z : zh.2.1 20 5 = 0
  · rw [if_pos z]
    rfl
  · rw [if_neg z]
/-- what a question about told things needs, of one heap -/
def INs (zn : Nat) (zt : PSt) (zh : AH) : Prop := WF zh ∧ IvT zh zh ∧ (POK zt ∧ ENz zt zh ∧ STw zt zh ∧ SQz zt zh zh ∧ BKz zt zh) ∧ IvF zn zh zh ∧ IvB zh zh ∧ IvH zh zh ∧ IvX zh zh
theorem INs_i {zn : Nat} {zt : PSt} {zh : AH} (z : INs zn zt zh) : InV zn zh := ⟨z.1, z.2.1, ⟨zt, z.2.2.1⟩, z.2.2.2⟩
theorem INs_cw {zn : Nat} {zt : PSt} {zh : AH} (z : INs zn zt zh) : INs zn zt (cwH zh (zt.1 1)) := by
  obtain ⟨zw, zT, ⟨zO, zE, zY, zQ, zK⟩, zF, zB, zH, zX⟩ := z
  have zr : ∀ zk, zk ≠ 20 → zk ≠ 23 → zk ≠ 24 → (cwH zh (zt.1 1)).2.1 zk = zh.2.1 zk := fun zk h1 h2 h3 => cw_r h1 h2 h3
  have zp := cw_p zh (zt.1 1)
  refine ⟨wf_cw zw, IvT_c zT ⟨?_, ?_⟩ ⟨?_, ?_⟩, ⟨zO, ENz_c ⟨?_, ?_, ?_, ?_⟩ zE, ?_, ⟨cw_m zQ.1, ?_, ?_, fun _ => cw_t zO.1 zQ.2.2.2⟩, ?_⟩, IvF_k zF ⟨?_, ?_, ?_, ?_, ?_, ?_⟩ ⟨?_, ?_, ?_⟩, IvB_c zB ⟨?_, ?_⟩ ⟨?_, ?_⟩, IvH_c zH ?_ ⟨?_, ?_, ?_⟩, IvX_c zX ⟨?_, ?_⟩ ⟨?_, ?_, ?_, ?_⟩⟩
  · rw [zr 1 (by omega) (by omega) (by omega)]
  · exact zr 2 (by omega) (by omega) (by omega)
  · rw [zr 49 (by omega) (by omega) (by omega)]
  · exact zr 50 (by omega) (by omega) (by omega)
  · rw [zr 49 (by omega) (by omega) (by omega)]
  · rw [zr 49 (by omega) (by omega) (by omega)]
  · rw [zr 49 (by omega) (by omega) (by omega)]
  · exact fun zk y1 y2 => zr zk (by omega) (by omega) (by omega)
  · rcases zY with ⟨y1, y2⟩ | ⟨y1, y2⟩
    · exact Or.inl ⟨STz_c (fun zi _ _ => zr zi (by omega) (by omega) (by omega)) y1, by rw [zp]; exact y2⟩
    · exact Or.inr ⟨STz_c (fun zi _ _ => zr zi (by omega) (by omega) (by omega)) y1, by rw [zp]; exact y2⟩
  · rw [zr 21 (by omega) (by omega) (by omega), zr 55 (by omega) (by omega) (by omega)]; exact zQ.2.1
  · rw [zr 22 (by omega) (by omega) (by omega), zr 55 (by omega) (by omega) (by omega)]; exact zQ.2.2.1
  · unfold BKz SHz at zK ⊢
    rw [zr 30 (by omega) (by omega) (by omega), zp]
    exact zK
  · exact zr 25 (by omega) (by omega) (by omega)
  · exact zr 26 (by omega) (by omega) (by omega)
  · exact zr 28 (by omega) (by omega) (by omega)
  · exact zr 36 (by omega) (by omega) (by omega)
  · rw [zp]
  · rw [zp]
  · exact zr 69 (by omega) (by omega) (by omega)
  · rw [zr 49 (by omega) (by omega) (by omega)]
  · rw [zp]
  · exact zr 35 (by omega) (by omega) (by omega)
  · rw [zr 34 (by omega) (by omega) (by omega)]
  · exact zr 68 (by omega) (by omega) (by omega)
  · rw [zr 49 (by omega) (by omega) (by omega)]
  · exact fun zk y1 y2 => zr zk (by omega) (by omega) (by omega)
  · exact zr 73 (by omega) (by omega) (by omega)
  · exact zr 74 (by omega) (by omega) (by omega)
  · exact zr 75 (by omega) (by omega) (by omega)
  · rw [zr 0 (by omega) (by omega) (by omega)]
  · rw [zr 19 (by omega) (by omega) (by omega)]
  · rw [zr 49 (by omega) (by omega) (by omega)]
  · rw [zr 49 (by omega) (by omega) (by omega)]
  · exact zr 51 (by omega) (by omega) (by omega)
  · exact zr 52 (by omega) (by omega) (by omega)
theorem wO_eq {zt : PSt} {zh : AH} (zQ : SQz zt zh zh) (zs : Nat) : wO (zt.1 1) (zh.2.1 55) (zh.2.1 66) zs = wW (fopB (zh.2.1 22) 0 (-4)) (zt.1 1) zs := by
  unfold wO
  exact wW_cong (fun zj hj => bf_eq zQ hj) 0 (-4) zs
theorem Ms_or {zb zg : AH} {zf : Nat → Int32} {zk : Nat → Int64} {zp : Prop} [Decidable zp] (zx : zg = if zp then sL (sI zb 66 zf) 67 zk else sI zb 66 zf) : Mscr zb zg := by
  by_cases z : zp
  · rw [if_pos z] at zx
    rw [zx]
    exact Ms_67 (Ms_66 _ _) _
  · rw [if_neg z] at zx
    rw [zx]
    exact Ms_66 _ _
theorem st_orders (E : ME) {zn : Nat} {zh : AH} (hi : InV zn zh) : StJ E zn mX10_orders mX11_orders 4 1 [] zh := by
  obtain ⟨zw, zT, ⟨zt, zS⟩, zR⟩ := id hi
  have zI : INs zn zt zh := ⟨zw, zT, zS, zR⟩
  have c1 := cn_X10_orders E zh (zt.1 1) zw zS.2.2.2.1.1 zS.1.1 zS.2.2.2.1.2.2.2
  by_cases zr : rgF (zh.2.1 22) (zt.1 1) = 0
  · rw [if_pos zr, if_pos zr] at c1
    have zJ := INs_cw zI
    have c2 := cn_X11_orders E (cwH zh (zt.1 1)) (zt.1 1) zJ.1 zJ.2.2.1.2.1.1 zS.1.1
    refine StJ_h c1 (INs_i zJ) c2 ?_ (fun zg z => Ms_or z)
    rw [rg_eq zJ.2.2.1.2.2.2.1, wO_eq zJ.2.2.1.2.2.2.1, cw_22, if_pos zr]
  · rw [if_neg zr, if_neg zr] at c1
    have c2 := cn_X11_orders E zh (zt.1 1) zw zS.2.1.1 zS.1.1
    refine StJ_h c1 hi c2 ?_ (fun zg z => Ms_or z)
    rw [rg_eq zS.2.2.2.1, if_neg zr]
theorem wW_22 {zt : PSt} {zh : AH} (zQ : SQz zt zh zh) (za zb : Int32) (zs : Nat) : wW (fopB (befF (zt.1 1) (zh.2.1 55) (zh.2.1 66)) za zb) (zt.1 1) zs = wW (fopB (zh.2.1 22) za zb) (zt.1 1) zs :=
  wW_cong (fun zj hj => bf_eq zQ hj) za zb zs
theorem wW_p0 {zt : PSt} {zh : AH} (zO : POK zt) (zE : ENz zt zh) (zQ : SQz zt zh zh) (zr : rgF (zh.2.1 22) (zt.1 1) = 0) : 0 < wW (fopB (zh.2.1 22) 0 (-4)) (zt.1 1) 0 := by
  rw [← wO_eq zQ]
  exact wO_pos zO.1 (BB_told zO zE) (by rw [rg_eq zQ]; exact zr) (Nat.two_pow_pos _)
theorem Ms_or3 {zb zg : AH} {zf : Nat → Int32} {zk : Nat → Int64} {zp zq : Prop} [Decidable zp] [Decidable zq] (zx : zg = if zq then (if zp then sL (sI zb 66 zf) 67 zk else sI zb 66 zf) else zb) : Mscr zb zg := by
  by_cases z : zq
  · rw [if_pos z] at zx
    exact Ms_or zx
  · rw [if_neg z] at zx
    rw [zx]
    exact Ms_0 _
theorem eq_likely {zt : PSt} {zh : AH} (zE : ENz zt zh) (zQ : SQz zt zh zh) (za zb zv : Int32) : (if (0 ≤ za ∧ za ≤ zh.2.1 49 14 - 1) ∧ (0 ≤ zb ∧ zb ≤ zh.2.1 49 14 - 1) ∧ ¬ za = zb ∧ (0 ≤ zv ∧ zv ≤ 1) then (if rgF (befF (zt.1 1) (zh.2.1 55) (zh.2.1 66)) (zt.1 1) = 0 then (if zv = 0 then lN ((wW (fopB (befF (zt.1 1) (zh.2.1 55) (zh.2.1 66)) za zb) (zt.1 1) 0) / Nat.gcd (wW (fopB (befF (zt.1 1) (zh.2.1 55) (zh.2.1 66)) za zb) (zt.1 1) 0) (wO (zt.1 1) (zh.2.1 55) (zh.2.1 66) 0)) else lN ((wO (zt.1 1) (zh.2.1 55) (zh.2.1 66) 0) / Nat.gcd (wW (fopB (befF (zt.1 1) (zh.2.1 55) (zh.2.1 66)) za zb) (zt.1 1) 0) (wO (zt.1 1) (zh.2.1 55) (zh.2.1 66) 0))) else -2) else -1) = (if (thg zt za ∧ thg zt zb ∧ ¬ za = zb) ∧ (0 ≤ zv ∧ zv ≤ 1) then (if rgF (zh.2.1 22) (zt.1 1) = 0 then (if zv = 0 then lN ((wW (fopB (zh.2.1 22) za zb) (zt.1 1) 0) / (Nat.gcd (wW (fopB (zh.2.1 22) za zb) (zt.1 1) 0) (wW (fopB (zh.2.1 22) 0 (-4)) (zt.1 1) 0))) else lN ((wW (fopB (zh.2.1 22) 0 (-4)) (zt.1 1) 0) / (Nat.gcd (wW (fopB (zh.2.1 22) za zb) (zt.1 1) 0) (wW (fopB (zh.2.1 22) 0 (-4)) (zt.1 1) 0)))) else -2) else -1) := by
  rw [zE.1, rg_eq zQ, wO_eq zQ, wW_22 zQ]
  by_cases z1 : (thg zt za ∧ thg zt zb ∧ ¬ za = zb) ∧ (0 ≤ zv ∧ zv ≤ 1)
  · rw [if_pos z1, if_pos ⟨z1.1.1, z1.1.2.1, z1.1.2.2, z1.2⟩]
  · rw [if_neg z1, if_neg (fun z => z1 ⟨⟨z.1, z.2.1, z.2.2.1⟩, z.2.2.2⟩)]
theorem st_likely (E : ME) {zn : Nat} {zh : AH} (hi : InV zn zh) (za zb zv : Int32) : StJ E zn mX10_likely mX11_likely 5 2 [.int za, .int zb, .int zv] zh := by
  obtain ⟨zw, zT, ⟨zt, zS⟩, zR⟩ := id hi
  have zI : INs zn zt zh := ⟨zw, zT, zS, zR⟩
  have zQ := zS.2.2.2.1
  have zJ := INs_cw zI
  have c1 : Con E mX10_likely 5 0 0 [.ref 0, .int za, .int zb, .int zv] zh (fun r h' => r = some (.long (if (thg zt za ∧ thg zt zb ∧ ¬ za = zb) ∧ (0 ≤ zv ∧ zv ≤ 1) then (if rgF (zh.2.1 22) (zt.1 1) = 0 then (if zv = 0 then lN ((wW (fopB (zh.2.1 22) za zb) (zt.1 1) 0) / (Nat.gcd (wW (fopB (zh.2.1 22) za zb) (zt.1 1) 0) (wW (fopB (zh.2.1 22) 0 (-4)) (zt.1 1) 0))) else lN ((wW (fopB (zh.2.1 22) 0 (-4)) (zt.1 1) 0) / (Nat.gcd (wW (fopB (zh.2.1 22) za zb) (zt.1 1) 0) (wW (fopB (zh.2.1 22) 0 (-4)) (zt.1 1) 0)))) else -2) else -1)) ∧ h' = if (thg zt za ∧ thg zt zb ∧ ¬ za = zb) ∧ (0 ≤ zv ∧ zv ≤ 1) then (if rgF (zh.2.1 22) (zt.1 1) = 0 then cwH zh (zt.1 1) else zh) else zh) := by
    rcases zS.2.2.1 with ⟨y1, y2, y3⟩ | ⟨y1, y2, y3⟩
    · exact cn_X10_likely_3 E zh zt za zb zv (zt.1 1) zw y1 zS.1 y2 zQ.1 zS.1.1 rfl zQ.2.2.2 (wW_p0 zS.1 zS.2.1 zQ)
    · exact cn_X10_likely_11 E zh zt za zb zv (zt.1 1) zw y1 zS.1 y2 zQ.1 zS.1.1 rfl zQ.2.2.2 (wW_p0 zS.1 zS.2.1 zQ)
  have zG : ∃ h1, INs zn zt h1 ∧ h1.2.1 22 = zh.2.1 22 ∧ (if (thg zt za ∧ thg zt zb ∧ ¬ za = zb) ∧ (0 ≤ zv ∧ zv ≤ 1) then (if rgF (zh.2.1 22) (zt.1 1) = 0 then cwH zh (zt.1 1) else zh) else zh) = h1 := by
    by_cases z1 : (thg zt za ∧ thg zt zb ∧ ¬ za = zb) ∧ (0 ≤ zv ∧ zv ≤ 1)
    · rw [if_pos z1]
      by_cases z2 : rgF (zh.2.1 22) (zt.1 1) = 0
      · rw [if_pos z2]
        exact ⟨_, zJ, cw_22 _ _, rfl⟩
      · rw [if_neg z2]
        exact ⟨_, zI, rfl, rfl⟩
    · rw [if_neg z1]
      exact ⟨_, zI, rfl, rfl⟩
  obtain ⟨h1, y1, y2, y3⟩ := zG
  rw [y3, ← y2] at c1
  exact StJ_h c1 (INs_i y1) (cn_X11_likely E h1 za zb zv (zt.1 1) y1.1 y1.2.2.1.2.1.1 zS.1.1 (BB_told zS.1 y1.2.2.1.2.1)) (eq_likely y1.2.2.1.2.1 y1.2.2.1.2.2.2.1 za zb zv) (fun zg z => Ms_or3 z)
theorem pk_cong {zg zk : Nat → Nat} : ∀ zf zt zl, (∀ zi, zi < zt + zf → zg zi = zk zi) → pkF zg zf zt zl = pkF zk zf zt zl
  | 0, _, _, _ => by rw [pkF, pkF]
  | zf + 1, zt, zl, h => by
    rw [pkF, pkF, h zt (by omega), pk_cong zf (zt + 1) (zl - zk zt) (fun zi hz => h zi (by omega))]
theorem oS_cong {zp zq : Nat → Nat → Bool} {zm : Nat} (h : ∀ zs zt, zt < zm → zp zs zt = zq zs zt) (zk : Nat) : ∀ zn, oS zp zm zk zn = oS zq zm zk zn
  | 0 => by rw [oS, oS]
  | zn + 1 => by
    have z1 : ∀ zs zl, pkF (gW zp zm zs) zm 0 zl = pkF (gW zq zm zs) zm 0 zl := fun zs zl => pk_cong zm 0 zl (fun zi hz => by
      unfold gW wW
      rw [h zs zi (by omega), wN_cong h])
    rw [oS, oS, oS_cong h zk zn, z1]
theorem eq_order {zt : PSt} {zh : AH} (zE : ENz zt zh) (zQ : SQz zt zh zh) (zx : Int64) (zi : Int32) : (if (0 ≤ zi ∧ zi ≤ zh.2.1 49 14 - 1) ∧ 0 ≤ zx ∧ (rgF (befF (zt.1 1) (zh.2.1 55) (zh.2.1 66)) (zt.1 1) = 0 → zx < lN (wO (zt.1 1) (zh.2.1 55) (zh.2.1 66) 0)) then (if rgF (befF (zt.1 1) (zh.2.1 55) (zh.2.1 66)) (zt.1 1) = 0 then (oS (fopB (befF (zt.1 1) (zh.2.1 55) (zh.2.1 66)) 0 (-4)) (zt.1 1) (Int64.toNatClampNeg zx) (Int32.toNatClampNeg zi + 1)).2.2 else -2) else -1) = (if 0 ≤ zx ∧ thg zt zi then (if rgF (zh.2.1 22) (zt.1 1) = 0 then (if zx < lN (wW (fopB (zh.2.1 22) 0 (-4)) (zt.1 1) 0) then (oS (fopB (zh.2.1 22) 0 (-4)) (zt.1 1) zx.toNatClampNeg (zi.toNatClampNeg + 1)).2.2 else -1) else -2) else -1) := by
  rw [zE.1, rg_eq zQ, wO_eq zQ, oS_cong (zp := fopB (befF (zt.1 1) (zh.2.1 55) (zh.2.1 66)) 0 (-4)) (zq := fopB (zh.2.1 22) 0 (-4)) (fun zs zj hj => fop_cong (bf_eq zQ hj) 0 (-4) zs)]
  by_cases z1 : 0 ≤ zx ∧ thg zt zi
  · rw [if_pos z1]
    by_cases z2 : rgF (zh.2.1 22) (zt.1 1) = 0
    · rw [if_pos z2, if_pos z2]
      by_cases z3 : zx < lN (wW (fopB (zh.2.1 22) 0 (-4)) (zt.1 1) 0)
      · rw [if_pos z3, if_pos ⟨z1.2, z1.1, fun _ => z3⟩]
      · rw [if_neg z3, if_neg (fun z => z3 (z.2.2 z2))]
    · rw [if_neg z2, if_neg z2, if_pos ⟨z1.2, z1.1, fun z => absurd z z2⟩]
  · rw [if_neg z1, if_neg (fun z => z1 ⟨z.2.1, z.1⟩)]
theorem st_order (E : ME) {zn : Nat} {zh : AH} (hi : InV zn zh) (zx : Int64) (zi : Int32) : StI E zn mX10_order mX11_order 5 1 [.long zx, .int zi] zh := by
  obtain ⟨zw, zT, ⟨zt, zS⟩, zR⟩ := id hi
  have zI : INs zn zt zh := ⟨zw, zT, zS, zR⟩
  have zQ := zS.2.2.2.1
  have zJ := INs_cw zI
  have c1 : Con E mX10_order 5 0 0 [.ref 0, .long zx, .int zi] zh (fun r h' => r = some (.int (if 0 ≤ zx ∧ thg zt zi then (if rgF (zh.2.1 22) (zt.1 1) = 0 then (if zx < lN (wW (fopB (zh.2.1 22) 0 (-4)) (zt.1 1) 0) then (oS (fopB (zh.2.1 22) 0 (-4)) (zt.1 1) zx.toNatClampNeg (zi.toNatClampNeg + 1)).2.2 else -1) else -2) else -1)) ∧ h' = if 0 ≤ zx ∧ thg zt zi then (if rgF (zh.2.1 22) (zt.1 1) = 0 then cwH zh (zt.1 1) else zh) else zh) := by
    rcases zS.2.2.1 with ⟨y1, y2, y3⟩ | ⟨y1, y2, y3⟩
    · exact cn_X10_order_3 E zh zt zx zi (zt.1 1) zw y1 zS.1 y2 zQ.1 zS.1.1 rfl zQ.2.2.2
    · exact cn_X10_order_11 E zh zt zx zi (zt.1 1) zw y1 zS.1 y2 zQ.1 zS.1.1 rfl zQ.2.2.2
  have zG : ∃ h1, INs zn zt h1 ∧ h1.2.1 22 = zh.2.1 22 ∧ (if 0 ≤ zx ∧ thg zt zi then (if rgF (zh.2.1 22) (zt.1 1) = 0 then cwH zh (zt.1 1) else zh) else zh) = h1 := by
    by_cases z1 : 0 ≤ zx ∧ thg zt zi
    · rw [if_pos z1]
      by_cases z2 : rgF (zh.2.1 22) (zt.1 1) = 0
      · rw [if_pos z2]
        exact ⟨_, zJ, cw_22 _ _, rfl⟩
      · rw [if_neg z2]
        exact ⟨_, zI, rfl, rfl⟩
    · rw [if_neg z1]
      exact ⟨_, zI, rfl, rfl⟩
  obtain ⟨h1, y1, y2, y3⟩ := zG
  rw [y3, ← y2] at c1
  exact StI_h c1 (INs_i y1) (cn_X11_order E h1 zx zi (zt.1 1) y1.1 y1.2.2.1.2.1.1 zS.1.1) (eq_order y1.2.2.1.2.1 y1.2.2.1.2.2.2.1 zx zi) (fun zg z => Ms_or z)
