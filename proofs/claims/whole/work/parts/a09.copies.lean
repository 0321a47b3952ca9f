def imB (zp : Nat → Nat) : Nat → Nat → Bool
  | 0, _ => false
  | zn + 1, zj => imB zp zn zj || decide (zj = zp zn)
theorem imB_iff (zp : Nat → Nat) (zj : Nat) : ∀ zn, imB zp zn zj = true ↔ ∃ zk, zk < zn ∧ zp zk = zj
  | 0 => by
    rw [imB]
    exact ⟨fun z => absurd z (by decide), fun ⟨zk, z, _⟩ => by omega⟩
  | zn + 1 => by
    rw [imB, Bool.or_eq_true, imB_iff zp zj zn, decide_eq_true_eq]
    constructor
    · rintro (⟨zk, z1, z2⟩ | z)
      · exact ⟨zk, by omega, z2⟩
      · exact ⟨zn, by omega, z.symm⟩
    · rintro ⟨zk, z1, z2⟩
      rcases Nat.lt_or_ge zk zn with z | z
      · exact Or.inl ⟨zk, z, z2⟩
      · rw [show zk = zn by omega] at z2
        exact Or.inr z2.symm
theorem ct_one {zP : Nat → Bool} {za zm : Nat} (h : za < zm) : fb_ct (fun zj => zP zj && decide (zj = za)) zm = if zP za then 1 else 0 := by
  have z1 := fb_ct_upd (fun _ => false) (zP za) h
  have z2 : fb_ct (fun _ => false) zm = 0 := fb_ct_zero.mpr (fun _ _ => rfl)
  rw [z2, if_neg (show ¬ (false = true) by decide)] at z1
  rw [← Nat.zero_add (if zP za = true then 1 else 0), ← z1, Nat.add_zero]
  refine fb_ct_cong (fun zk hk => ?_)
  by_cases z : zk = za
  · rw [if_pos z, decide_eq_true z, z, Bool.and_true]
  · rw [if_neg z, decide_eq_false z, Bool.and_false]
theorem ct_im (zP : Nat → Bool) (zp : Nat → Nat) (zm : Nat) : ∀ zn, (∀ za zb, za < zn → zb < zn → zp za = zp zb → za = zb) → (∀ za, za < zn → zp za < zm) → fb_ct (fun zj => zP zj && imB zp zn zj) zm = fb_ct (fun zk => zP (zp zk)) zn
  | 0, _, _ => by
    refine (fb_ct_zero.mpr (fun zk _ => ?_)).trans rfl
    rw [imB, Bool.and_false]
  | zn + 1, h1, h2 => by
    rw [fb_ct_succ, ← ct_im zP zp zm zn (fun za zb y1 y2 => h1 za zb (by omega) (by omega)) (fun za y1 => h2 za (by omega)), ← ct_one (zP := zP) (h2 zn (by omega)), ← fb_ct_or]
    · refine fb_ct_cong (fun zk hk => ?_)
      rw [imB]
      cases zP zk <;> simp
    · rintro zk hk ⟨y1, y2⟩
      rw [Bool.and_eq_true, imB_iff] at y1
      rw [Bool.and_eq_true, decide_eq_true_eq] at y2
      obtain ⟨-, zj, y3, y4⟩ := y1
      have := h1 zj zn (by omega) (by omega) (y4.trans y2.2)
      omega
theorem ct_sp {zP : Nat → Bool} {zp : Nat → Nat} {zm zn : Nat} (h1 : ∀ za zb, za < zn → zb < zn → zp za = zp zb → za = zb) (h2 : ∀ za, za < zn → zp za < zm) (h3 : ∀ zj, zj < zm → zP zj = true → ∃ zk, zk < zn ∧ zp zk = zj) : fb_ct zP zm = fb_ct (fun zk => zP (zp zk)) zn := by
  rw [← ct_im zP zp zm zn h1 h2]
  refine fb_ct_cong (fun zj hj => ?_)
  cases z : zP zj with
  | false => rfl
  | true => rw [(imB_iff zp zj zn).mpr (h3 zj hj z)]; rfl
abbrev cvz (zw zs ze : Nat) : Prop := zw < 8 ∧ (zs = 1 ∨ zs = 2) ∧ ze < 64 ∧ ze / 8 + 4 * zs ≤ 8 ∧ ze % 8 + 4 * zs ≤ 8
theorem cn_parts {zp zw zs ze : Nat} (h : cvz zw zs ze) : cnN zp zw zs ze / 208 = zp ∧ cpS (cnN zp zw zs ze) = zs ∧ cpW (cnN zp zw zs ze) = zw ∧ cpC (cnN zp zw zs ze) = ze := by
  obtain ⟨h1, h2, h3, h4, h5⟩ := h
  rcases h2 with rfl | rfl
  · have e1 : cnN zp zw 1 ze = zp * 208 + (zw * 25 + ze / 8 * 5 + ze % 8) := by unfold cnN; rw [if_neg (by decide)]
    have e2 : cnN zp zw 1 ze % 208 = zw * 25 + ze / 8 * 5 + ze % 8 := by rw [e1]; omega
    have e3 : cnN zp zw 1 ze % 208 < 200 := by rw [e2]; omega
    have e4 : cpQ (cnN zp zw 1 ze) = ze / 8 * 5 + ze % 8 := by unfold cpQ; rw [if_pos e3, e2]; omega
    refine ⟨by rw [e1]; omega, by unfold cpS; rw [if_pos e3], by unfold cpW; rw [if_pos e3, e2]; omega, by unfold cpC; rw [e4]; omega⟩
  · have e0 : ze = 0 := by omega
    have e1 : cnN zp zw 2 ze = zp * 208 + (200 + zw) := by unfold cnN; rw [if_pos rfl]
    have e2 : cnN zp zw 2 ze % 208 = 200 + zw := by rw [e1]; omega
    have e3 : ¬ cnN zp zw 2 ze % 208 < 200 := by rw [e2]; omega
    have e4 : cpQ (cnN zp zw 2 ze) = 0 := by unfold cpQ; rw [if_neg e3]
    refine ⟨by rw [e1]; omega, by unfold cpS; rw [if_neg e3], by unfold cpW; rw [if_neg e3, e2]; omega, by unfold cpC; rw [e4, e0]⟩
/-- where cell zk of a copy comes from in its pattern -/
def frN (zw zs zk : Nat) : Nat := srN 4 zw (4 * (zk / (4 * zs) / zs) + zk % (4 * zs) / zs)
theorem fr_ix {zw zs zk : Nat} (hw : zw < 8) (hs : zs = 1 ∨ zs = 2) (hk : zk < 16 * zs * zs) : frN zw zs zk < 16 := by
  refine (sr4 zw hw _ ?_).2
  rcases hs with rfl | rfl
  · omega
  · omega
theorem tc_sp (zc : Nat → Nat → Nat) {zp zw zs ze zk : Nat} (h : cvz zw zs ze) (hk : zk < 16 * zs * zs) : tcN zc (cnN zp zw zs ze) (spN zs ze zk) = zc zp (frN zw zs zk) := by
  obtain ⟨e1, e2, e3, e4⟩ := cn_parts (zp := zp) h
  obtain ⟨h1, h2, h3, h4, h5⟩ := h
  unfold tcN frN
  rw [e1, e2, e3, e4]
  rcases h2 with rfl | rfl
  · have s1 : spN 1 ze zk / 8 = ze / 8 + zk / 4 := by unfold spN; omega
    have s2 : spN 1 ze zk % 8 = ze % 8 + zk % 4 := by unfold spN; omega
    rw [if_pos rfl, if_pos ⟨by rw [s1]; omega, by rw [s1]; omega, by rw [s2]; omega, by rw [s2]; omega⟩, s1, s2]
    congr 2
    omega
  · have e0 : ze = 0 := by omega
    have s1 : spN 2 ze zk = zk := by unfold spN; omega
    rw [if_neg (by decide), s1]
    congr 2
    omega
theorem tc_out (zc : Nat → Nat → Nat) {zp zw zs ze zj : Nat} (h : cvz zw zs ze) (hj : zj < 64) (ht : ¬ tcN zc (cnN zp zw zs ze) zj = 6) : ∃ zk, zk < 16 * zs * zs ∧ spN zs ze zk = zj := by
  obtain ⟨e1, e2, e3, e4⟩ := cn_parts (zp := zp) h
  obtain ⟨h1, h2, h3, h4, h5⟩ := h
  unfold tcN at ht
  rw [e1, e2, e3, e4] at ht
  rcases h2 with rfl | rfl
  · rw [if_pos rfl] at ht
    by_cases z : ze / 8 ≤ zj / 8 ∧ zj / 8 < ze / 8 + 4 ∧ ze % 8 ≤ zj % 8 ∧ zj % 8 < ze % 8 + 4
    · refine ⟨4 * (zj / 8 - ze / 8) + (zj % 8 - ze % 8), by omega, ?_⟩
      unfold spN
      omega
    · rw [if_neg z] at ht
      exact absurd rfl ht
  · refine ⟨zj, by omega, ?_⟩
    unfold spN
    omega
theorem sp_inj {zs ze za zb : Nat} (hs : zs = 1 ∨ zs = 2) (ha : za < 16 * zs * zs) (hb : zb < 16 * zs * zs) (h : spN zs ze za = spN zs ze zb) : za = zb := by
  unfold spN at h
  rcases hs with rfl | rfl
  · omega
  · omega
theorem cvz_sp {zw zs ze zk : Nat} (h : cvz zw zs ze) (hk : zk < 16 * zs * zs) : spN zs ze zk < 64 := spN_lt h.2.1 h.2.2.2.1 h.2.2.2.2 hk
theorem clV_6 {zc : Nat} (h : zc ≤ 6) : clV zc = -4 ↔ zc = 6 := by
  unfold clV
  by_cases z : zc = 6
  · rw [if_pos z]; exact ⟨fun _ => z, fun _ => rfl⟩
  · rw [if_neg z]
    exact ⟨fun y => absurd y (nI_m4 zc (by omega)), fun y => absurd y z⟩
theorem clV_n {zc : Nat} (h : zc < 6) : clV zc = nI zc := if_neg (by omega)
theorem agF_ct {zt zf : Nat → Int32} {zT : Nat → Nat} {zp : Nat → Nat} {zg : Nat → Int32} : ∀ zn, (∀ zk, zk < zn → zt zk = clV (zT zk) ∧ zT zk ≤ 6 ∧ zf zk = zg (zp zk)) → agF zt zf zn = nI (fb_ct (fun zk => decide (zT zk < 6) && agQ zg (zT zk) (zp zk)) zn)
  | 0, _ => by rw [agF]; rfl
  | zn + 1, h => by
    obtain ⟨y1, y2, y3⟩ := h zn (by omega)
    rw [agF, agF_ct zn (fun zk hk => h zk (by omega)), fb_ct_succ]
    by_cases z : zT zn = 6
    · rw [if_pos (by rw [y1]; exact (clV_6 y2).mpr z), decide_eq_false (by omega : ¬ zT zn < 6), Bool.false_and, if_neg (by decide)]
      rfl
    · rw [if_neg (by rw [y1]; exact fun y => z ((clV_6 y2).mp y)), decide_eq_true (by omega : zT zn < 6), Bool.true_and, y1, y3, clV_n (by omega)]
      unfold agQ
      by_cases y : zg (zp zn) = nI (zT zn)
      · rw [if_pos y, if_pos (decide_eq_true y)]
        exact nI_add _ 1
      · rw [if_neg y, if_neg (by rw [decide_eq_false y]; decide)]
        exact nI_add _ 0
theorem clF_ct {zt zf : Nat → Int32} {zT : Nat → Nat} {zp : Nat → Nat} {zg : Nat → Int32} : ∀ zn, (∀ zk, zk < zn → zt zk = clV (zT zk) ∧ zT zk ≤ 6 ∧ zf zk = zg (zp zk)) → clF zt zf zn = nI (fb_ct (fun zk => decide (zT zk < 6) && clQ zg (zT zk) (zp zk)) zn)
  | 0, _ => by rw [clF]; rfl
  | zn + 1, h => by
    obtain ⟨y1, y2, y3⟩ := h zn (by omega)
    rw [clF, clF_ct zn (fun zk hk => h zk (by omega)), fb_ct_succ]
    by_cases z : zT zn = 6
    · rw [if_pos (by rw [y1]; exact (clV_6 y2).mpr z), decide_eq_false (by omega : ¬ zT zn < 6), Bool.false_and, if_neg (by decide)]
      rfl
    · rw [if_neg (by rw [y1]; exact fun y => z ((clV_6 y2).mp y)), decide_eq_true (by omega : zT zn < 6), Bool.true_and, y1, y3, clV_n (by omega)]
      unfold clQ
      by_cases y : ¬ zg (zp zn) = -1 ∧ ¬ zg (zp zn) = nI (zT zn)
      · rw [if_pos y, if_pos (by rw [decide_eq_false y.1, decide_eq_false y.2]; rfl)]
        exact nI_add _ 1
      · rw [if_neg y, if_neg]
        · exact nI_add _ 0
        · intro q
          rw [Bool.and_eq_true] at q
          exact y ⟨by simpa using q.1, by simpa using q.2⟩
theorem fiF_ct {zt zf : Nat → Int32} {zT : Nat → Nat} {zp : Nat → Nat} {zg : Nat → Int32} : ∀ zn, (∀ zk, zk < zn → zt zk = clV (zT zk) ∧ zT zk ≤ 6 ∧ zf zk = zg (zp zk)) → fiF zt zf zn = nI (fb_ct (fun zk => decide (zT zk < 6) && fiQ zg (zT zk) (zp zk)) zn)
  | 0, _ => by rw [fiF]; rfl
  | zn + 1, h => by
    obtain ⟨y1, y2, y3⟩ := h zn (by omega)
    rw [fiF, fiF_ct zn (fun zk hk => h zk (by omega)), fb_ct_succ]
    by_cases z : zT zn = 6
    · rw [if_pos (by rw [y1]; exact (clV_6 y2).mpr z), decide_eq_false (by omega : ¬ zT zn < 6), Bool.false_and, if_neg (by decide)]
      rfl
    · rw [if_neg (by rw [y1]; exact fun y => z ((clV_6 y2).mp y)), decide_eq_true (by omega : zT zn < 6), Bool.true_and, y3]
      unfold fiQ
      by_cases y : zg (zp zn) = -1
      · rw [if_pos y, if_pos (decide_eq_true y)]
        exact nI_add _ 1
      · rw [if_neg y, if_neg (by rw [decide_eq_false y]; decide)]
        exact nI_add _ 0
theorem ct_copy (zc : Nat → Nat → Nat) (zQ : Nat → Nat → Bool) {zp zw zs ze : Nat} (h : cvz zw zs ze) : ctT (tcN zc (cnN zp zw zs ze)) zQ 6 = fb_ct (fun zk => decide (zc zp (frN zw zs zk) < 6) && zQ (zc zp (frN zw zs zk)) (spN zs ze zk)) (16 * zs * zs) := by
  unfold ctT
  rw [ct_sp (zp := spN zs ze) (zn := 16 * zs * zs) (fun za zb y1 y2 y3 => sp_inj h.2.1 y1 y2 y3) (fun za y1 => cvz_sp h y1) (fun zj hj y1 => tc_out zc (zp := zp) h hj (fun z => by rw [z] at y1; exact absurd y1 (by simp)))]
  exact fb_ct_cong (fun zk hk => by rw [tc_sp zc h hk])
/-- the book of both: what the model's copies tell -/
def bkc (zt : PSt) (zp zi : Nat) : Nat := zt.2 6 (16 * zp + zi)
theorem tl_told {zt : PSt} {zh : AH} (zO : POK zt) (zE : ENz zt zh) {zp zw zs zk : Nat} (hp : zp < zt.1 2) (hw : zw < 8) (hs : zs = 1 ∨ zs = 2) (hk : zk < 16 * zs * zs) : tlN (zh.2.1 56) zp zw zs zk = clV (bkc zt zp (frN zw zs zk)) ∧ bkc zt zp (frN zw zs zk) ≤ 6 := by
  have z1 := fr_ix hw hs hk
  exact ⟨zE.2.2.2.2.2 _ (by unfold frN at z1; omega), zO.2.2.2.2.2.2.2 _ (by omega)⟩
theorem ag_ct {zt : PSt} {zh : AH} (zO : POK zt) (zE : ENz zt zh) {zp zw zs ze : Nat} (hp : zp < zt.1 2) (h : cvz zw zs ze) : agN zh zp zw zs ze = nI (ctT (tcN (bkc zt) (cnN zp zw zs ze)) (agQ (zh.2.1 69)) 6) := by
  unfold agN
  rw [agF_ct (zT := fun zk => bkc zt zp (frN zw zs zk)) (zp := spN zs ze) (zg := zh.2.1 69) _ (fun zk hk => ⟨(tl_told zO zE hp h.1 h.2.1 hk).1, (tl_told zO zE hp h.1 h.2.1 hk).2, rfl⟩), ct_copy _ _ h]
theorem cl_ct {zt : PSt} {zh : AH} (zO : POK zt) (zE : ENz zt zh) {zp zw zs ze : Nat} (hp : zp < zt.1 2) (h : cvz zw zs ze) : clN zh zp zw zs ze = nI (ctT (tcN (bkc zt) (cnN zp zw zs ze)) (clQ (zh.2.1 69)) 6) := by
  unfold clN
  rw [clF_ct (zT := fun zk => bkc zt zp (frN zw zs zk)) (zp := spN zs ze) (zg := zh.2.1 69) _ (fun zk hk => ⟨(tl_told zO zE hp h.1 h.2.1 hk).1, (tl_told zO zE hp h.1 h.2.1 hk).2, rfl⟩), ct_copy _ _ h]
theorem fi_ct {zt : PSt} {zh : AH} (zO : POK zt) (zE : ENz zt zh) {zp zw zs ze : Nat} (hp : zp < zt.1 2) (h : cvz zw zs ze) : fiN zh zp zw zs ze = nI (ctT (tcN (bkc zt) (cnN zp zw zs ze)) (fiQ (zh.2.1 69)) 6) := by
  unfold fiN
  rw [fiF_ct (zT := fun zk => bkc zt zp (frN zw zs zk)) (zp := spN zs ze) (zg := zh.2.1 69) _ (fun zk hk => ⟨(tl_told zO zE hp h.1 h.2.1 hk).1, (tl_told zO zE hp h.1 h.2.1 hk).2, rfl⟩), ct_copy _ _ h]
theorem cpy_cv {zb : Nat} {zp zw zs ze : Int32} (hb : zb ≤ 4) (h : cpy (nI zb) zp zw zs ze) : zp.toNatClampNeg < zb ∧ cvz zw.toNatClampNeg zs.toNatClampNeg ze.toNatClampNeg := by
  obtain ⟨yp, yw, ys, ye, rfl, rfl, rfl, rfl, y1, y2, y3, y4, y5, y6⟩ := cpy_nat rfl hb h
  rw [nI_clamp (by omega), nI_clamp (by omega), nI_clamp (by omega), nI_clamp (by omega)]
  exact ⟨y1, y2, y3, y4, y5, y6⟩
theorem st_copy (E : ME) {zn : Nat} {zh : AH} (hi : InV zn zh) (zp zw zs ze zv : Int32) : StI E zn mX10_copy mX11_copy 4 3 [.int zp, .int zw, .int zs, .int ze, .int zv] zh := by
  obtain ⟨yw, zT, ⟨zt, zO, zE, zY, zQ, zK⟩, zF, zB, zH, zX⟩ := id hi
  have c1 := cn_X10_copy E zh zp zw zs ze zv (bkc zt) (zt.1 2) _ _ yw zK.1 zO.2.1 zK.2 zF.1
  have c2 := cn_X11_copy E zh zp zw zs ze zv (zt.1 2) yw zE.2.1 zO.2.1
  refine StI_q hi c1 c2 ?_ (fun zg z => ?_)
  · rw [zE.2.1]
    by_cases z1 : cpy (nI (zt.1 2)) zp zw zs ze
    · obtain ⟨y1, y2⟩ := cpy_cv zO.2.1 z1
      rw [if_pos z1, ag_ct zO zE y1 y2, cl_ct zO zE y1 y2, fi_ct zO zE y1 y2]
      by_cases z2 : 0 ≤ zv ∧ zv ≤ 2
      · rw [if_pos ⟨z1, z2⟩]
        rcases v_2.mp z2 with rfl | rfl | rfl <;> rfl
      · rw [if_neg (fun z => z2 z.2), if_neg (fun z => z2 (v_2.mpr (Or.inl z))), if_neg (fun z => z2 (v_2.mpr (Or.inr (Or.inl z)))), if_neg (fun z => z2 (v_2.mpr (Or.inr (Or.inr z))))]
    · rw [if_neg z1, if_neg (fun z => z1 z.1)]
  · by_cases y : cpy (zh.2.1 49 16) zp zw zs ze ∧ (0 ≤ zv ∧ zv ≤ 2)
    · rw [if_pos y] at z
      rw [z]
      exact Ms_lc _ _ _ _
    · rw [if_neg y] at z
      rw [z]
      exact Ms_0 _
theorem lyF_out {zt : Nat → Int32} {zp : Nat → Nat} {zf : Nat → Int32} {zj : Nat} : ∀ zn, (∀ zk, zk < zn → ¬ zp zk = zj) → lyF zt zp zf zn zj = zf zj
  | 0, _ => by rw [lyF]
  | zn + 1, h => by
    rw [lyF]
    unfold upd
    rw [if_neg (fun z => h zn (by omega) z.symm)]
    exact lyF_out zn (fun zk hk => h zk (by omega))
theorem lyF_in {zt : Nat → Int32} {zp : Nat → Nat} {zf : Nat → Int32} {zk : Nat} : ∀ zn, zk < zn → (∀ za zb, za < zn → zb < zn → zp za = zp zb → za = zb) → lyF zt zp zf zn (zp zk) = if ¬ zt zk = -4 ∧ zf (zp zk) = -1 then zt zk else zf (zp zk)
  | 0, h, _ => by omega
  | zn + 1, h, hz => by
    rw [lyF]
    unfold upd
    by_cases z : zk = zn
    · rw [if_pos (by rw [z]), ← z, lyF_out zk (fun zq hq y => by have := hz zq zk (by omega) (by omega) y; omega)]
    · rw [if_neg (fun y => z (hz zk zn (by omega) (by omega) y))]
      exact lyF_in zn (by omega) (fun za zb y1 y2 => hz za zb (by omega) (by omega))
theorem ly_eq {zt : PSt} {zh : AH} (zO : POK zt) (zE : ENz zt zh) {zp zw zs ze : Nat} (hp : zp < zt.1 2) (h : cvz zw zs ze) {zj : Nat} (hj : zj < 64) : lyF (fun zk => tlN (zh.2.1 56) zp zw zs zk) (spN zs ze) (zh.2.1 69) (16 * zs * zs) zj = lyG (tcN (bkc zt) (cnN zp zw zs ze)) (zh.2.1 69) 6 0 zj := by
  unfold lyG
  by_cases z : ∃ zk, zk < 16 * zs * zs ∧ spN zs ze zk = zj
  · obtain ⟨zk, y1, rfl⟩ := z
    rw [lyF_in _ y1 (fun za zb y1 y2 y3 => sp_inj h.2.1 y1 y2 y3), (tl_told zO zE hp h.1 h.2.1 y1).1, tc_sp _ h y1]
    have y2 := (tl_told zO zE hp h.1 h.2.1 y1).2
    by_cases y3 : bkc zt zp (frN zw zs zk) = 6
    · rw [if_neg (fun y => y.1 ((clV_6 y2).mpr y3)), if_neg (fun y => by omega)]
    · rw [clV_n (by omega)]
      by_cases y4 : zh.2.1 69 (spN zs ze zk) = -1
      · rw [if_pos ⟨nI_m4 _ (by omega), y4⟩, if_pos ⟨hj, Or.inl (by omega), y4⟩]
      · rw [if_neg (fun y => y4 y.2), if_neg (fun y => y4 y.2.2)]
  · rw [lyF_out _ (fun zk hk y => z ⟨zk, hk, y⟩), if_neg]
    rintro ⟨-, y1, -⟩
    exact z (tc_out (bkc zt) (zp := zp) h hj (fun y => by omega))
theorem st_lay (E : ME) {zn : Nat} {zh : AH} (hi : InV zn zh) (hn : zn ≤ 512) (zp zw zs ze : Int32) : StI E zn mX10_lay mX11_lay 4 3 [.int zp, .int zw, .int zs, .int ze] zh := by
  obtain ⟨yw, zT, ⟨zt, zO, zE, zY, zQ, zK⟩, zF, zB, zH, zX⟩ := id hi
  have c1 := cn_X10_lay E zh zp zw zs ze (bkc zt) (zt.1 2) _ _ yw zK.1 zO.2.1 zK.2 zF.1
  have c0 := cn_X11_lay E zh zp zw zs ze (zt.1 2) yw zE.2.1 zO.2.1
  rw [zE.2.1] at c0
  by_cases z1 : cpy (nI (zt.1 2)) zp zw zs ze
  · obtain ⟨y1, y2⟩ := cpy_cv zO.2.1 z1
    have yb := ctT_b (tcN (bkc zt) (cnN zp.toNatClampNeg zw.toNatClampNeg zs.toNatClampNeg ze.toNatClampNeg)) (clQ (zh.2.1 69)) 6
    by_cases z2 : ctT (tcN (bkc zt) (cnN zp.toNatClampNeg zw.toNatClampNeg zs.toNatClampNeg ze.toNatClampNeg)) (clQ (zh.2.1 69)) 6 = 0
    · refine ⟨_, c1, fun zr h1 x1 => ⟨_, x1.1, ?_⟩⟩
      obtain ⟨-, x2, -⟩ := x1
      obtain ⟨zy, ⟨x3, x4, zq, q1, q2, q3⟩, x5⟩ := x2 ⟨z1, z2⟩
      have e69 : h1.2.1 69 = zh.2.1 69 := x4.2.2.1 69 (by omega) (by omega)
      have e56 : h1.2.1 56 = zh.2.1 56 := x4.2.2.1 56 (by omega) (by omega)
      have e49 : h1.2.1 49 = zh.2.1 49 := x4.2.2.1 49 (by omega) (by omega)
      have l49 : h1.2.2.1 49 = zh.2.2.1 49 := x4.2.2.2.1 49 (by omega) (by omega)
      have zE1 : ENz zt h1 := ENz_c ⟨by rw [e49], by rw [e49], by rw [e49], fun zk _ _ => x4.2.2.1 zk (by omega) (by omega)⟩ zE
      have c2 := cn_X11_lay E h1 zp zw zs ze (zt.1 2) (FrF_w x4 yw) zE1.2.1 zO.2.1
      have e0 : ¬ 0 < clN h1 zp.toNatClampNeg zw.toNatClampNeg zs.toNatClampNeg ze.toNatClampNeg := by
        rw [cl_ct zO zE1 y1 y2, e69, z2]
        decide
      rw [zE1.2.1, if_pos z1, if_pos z1, if_neg e0, if_neg e0] at c2
      have ez : zy = zh.2.2.1 49 37 := by
        apply lb_ext
        intro zj hj
        rw [x5 zj hj]
        unfold lyB
        by_cases y : lbt (zh.2.2.1 49 37) zj = true
        · rw [decide_eq_false (fun z => zF.2.2.2.1 zj hj y z.2), y]
          rfl
        · rw [ts_nt y]
          rfl
      refine ⟨_, FrF_w x4 yw, c2, fun zu h2 x6 => ⟨?_, ?_⟩⟩
      · rw [x6.1, fi_ct zO zE1 y1 y2, e69, if_pos z1, if_neg (fun z => z z2)]
      · obtain ⟨-, rfl⟩ := x6
        have eF : ∀ zj, zj < 64 → lyF (fun zk => tlN (h1.2.1 56) zp.toNatClampNeg zw.toNatClampNeg zs.toNatClampNeg zk) (spN zs.toNatClampNeg ze.toNatClampNeg) (h1.2.1 69) (16 * zs.toNatClampNeg * zs.toNatClampNeg) zj = lyG (tcN (bkc zt) (cnN zp.toNatClampNeg zw.toNatClampNeg zs.toNatClampNeg ze.toNatClampNeg)) (zh.2.1 69) 6 0 zj := fun zj hj => by
          rw [e56, e69]
          exact ly_eq zO zE y1 y2 hj
        refine flo_i (h1 := h1) (zt := zh.2.1 0 11) (zq := zq) hi hn x4.1 x4.2.1 (fun zk a1 a2 a3 a4 => x4.2.2.1 zk a2 a3) (by rw [x4.2.2.1 0 (by omega) (by omega)]) (fun zk a1 a2 a3 => x4.2.2.2.1 zk a1 a2) rfl rfl (fun zk a1 a2 a3 a4 a5 => ?_) (fun zj a1 a2 a3 a4 a5 => ?_) ?_ (fun zk a1 => rfl) ?_ ?_ ?_ ?_ (by omega) q2 ?_
        · rw [sI_ne _ _ a2]
          exact sI_ne _ _ a1
        · rw [sI_ne _ _ (by omega)]
          exact (Ms_lc h1 _ _ _).2.2.2.1 zj a2 a3 a4
        · rw [sI_ne _ _ (by omega), (Ms_lc h1 _ _ _).2.2.2.1 48 (by omega) (by omega) (by omega), e49]
          exact zX.1.symm
        · rw [sI_at]
          show FLz _ (h1.2.2.1 49 37) h1
          rw [l49, ← ez]
          exact FLz_f (fun zj hj => (eF zj hj).symm) x3
        · rw [x4.2.2.2.2 6 (by omega)]
          exact zF.2.1
        · rw [sI_ne _ _ (by omega), (Ms_lc h1 _ _ _).2.2.2.1 38 (by omega) (by omega) (by omega), e49, x4.2.2.2.2 6 (by omega)]
          exact zF.2.2.1
        · intro zj hj
          rw [sI_at]
          show lbt (h1.2.2.1 49 37) zj = true → _
          rw [l49, eF zj hj]
          intro y
          have y3 := zF.2.2.2.1 zj hj y
          unfold lyG
          rw [if_neg (fun z => y3 z.2.2)]
          exact y3
        · intro z zj hj
          rw [sI_at, eF zj hj, q3 z]
    · refine ⟨_, c1, fun zr h1 x1 => ⟨_, x1.1, ?_⟩⟩
      obtain ⟨-, -, x2⟩ := x1
      have e1 := x2 (fun z => z2 z.2)
      subst e1
      have e0 : 0 < clN h1 zp.toNatClampNeg zw.toNatClampNeg zs.toNatClampNeg ze.toNatClampNeg := by
        rw [cl_ct zO zE y1 y2]
        exact nI_lt (a := 0) (by omega) (by omega)
      rw [if_pos z1, if_pos z1, if_pos e0, if_pos e0] at c0
      exact ⟨_, yw, c0, fun zu h2 x6 => ⟨by rw [x6.1, if_pos z1, if_pos z2], by rw [x6.2]; exact Ms_i (Ms_lc _ _ _ _) hi⟩⟩
  · refine ⟨_, c1, fun zr h1 x1 => ⟨_, x1.1, ?_⟩⟩
    obtain ⟨-, -, x2⟩ := x1
    have e1 := x2 (fun z => z1 z.1)
    subst e1
    rw [if_neg z1, if_neg z1] at c0
    exact ⟨_, yw, c0, fun zu h2 x6 => ⟨by rw [x6.1, if_neg z1], by rw [x6.2]; exact InV_s hi⟩⟩
