def VWz (zP : Nat → Prop) (zx : Int32) : Prop := ((∀ zk, zk < 6 → ¬ zP zk) ∧ zx = -4) ∨ (∃ zc, zc < 6 ∧ zP zc ∧ (∀ zk, zk < 6 → zP zk → zk = zc) ∧ zx = nI zc) ∨ ((∃ za zb, za < 6 ∧ zb < 6 ∧ za ≠ zb ∧ zP za ∧ zP zb) ∧ zx = -2)
theorem nI_m2 : ∀ zt, zt < 12 → ¬ nI zt = -2 := by decide
theorem nI_mm1 : ∀ zt, zt < 12 → ¬ nI zt = -1 := by decide
theorem VW_c {zP zQ : Nat → Prop} {zx : Int32} (h : VWz zP zx) (H : ∀ zk, zk < 6 → (zP zk ↔ zQ zk)) : VWz zQ zx := by
  rcases h with ⟨h1, h2⟩ | ⟨zc, h1, h2, h3, h4⟩ | ⟨⟨za, zb, h1, h2, h3, h4, h5⟩, h6⟩
  · exact Or.inl ⟨fun zk hk z => h1 zk hk ((H zk hk).mpr z), h2⟩
  · exact Or.inr (Or.inl ⟨zc, h1, (H zc h1).mp h2, fun zk hk z => h3 zk hk ((H zk hk).mpr z), h4⟩)
  · exact Or.inr (Or.inr ⟨⟨za, zb, h1, h2, h3, (H za h1).mp h4, (H zb h2).mp h5⟩, h6⟩)
theorem VW_u {zP : Nat → Prop} {zx zy : Int32} (h : VWz zP zx) (g : VWz zP zy) : zx = zy := by
  rcases h with ⟨h1, h2⟩ | ⟨zc, h1, h2, h3, h4⟩ | ⟨⟨za, zb, h1, h2, h3, h4, h5⟩, h6⟩
  · rcases g with ⟨g1, g2⟩ | ⟨zd, g1, g2, g3, g4⟩ | ⟨⟨zu, zv, g1, g2, g3, g4, g5⟩, g6⟩
    · rw [h2, g2]
    · exact absurd g2 (h1 zd g1)
    · exact absurd g4 (h1 zu g1)
  · rcases g with ⟨g1, g2⟩ | ⟨zd, g1, g2, g3, g4⟩ | ⟨⟨zu, zv, g1, g2, g3, g4, g5⟩, g6⟩
    · exact absurd h2 (g1 zc h1)
    · rw [h4, g4, g3 zc h1 h2]
    · exact absurd ((h3 zu g1 g4).trans (h3 zv g2 g5).symm) g3
  · rcases g with ⟨g1, g2⟩ | ⟨zd, g1, g2, g3, g4⟩ | ⟨⟨zu, zv, g1, g2, g3, g4, g5⟩, g6⟩
    · exact absurd h4 (g1 za h1)
    · exact absurd ((g3 za h1 h4).trans (g3 zb h2 h5).symm) h3
    · rw [h6, g6]
theorem VW_s {zP : Nat → Prop} {zx zs : Int32} (hs : zs = -4 ∨ zs = -1 ∨ ∃ zc, zc < 6 ∧ zs = nI zc) (h : VWz zP zx) : VWz (fun zk => zP zk ∨ zs = nI zk) (wdI zx zs) := by
  unfold wdI
  rcases hs with hs | hs | ⟨zc, hc, hs⟩
  · rw [if_pos (Or.inl hs)]
    exact VW_c h (fun zk hk => ⟨Or.inl, fun z => z.elim id (fun y => absurd (y.symm.trans hs) (nI_m4 zk (by omega)))⟩)
  · rw [if_pos (Or.inr hs)]
    exact VW_c h (fun zk hk => ⟨Or.inl, fun z => z.elim id (fun y => absurd (y.symm.trans hs) (nI_mm1 zk (by omega)))⟩)
  · subst hs
    rw [if_neg (fun z => z.elim (nI_m4 zc (by omega)) (nI_mm1 zc (by omega)))]
    rcases h with ⟨h1, h2⟩ | ⟨zd, h1, h2, h3, h4⟩ | ⟨⟨za, zb, h1, h2, h3, h4, h5⟩, h6⟩
    · rw [if_pos h2]
      exact Or.inr (Or.inl ⟨zc, hc, Or.inr rfl, fun zk hk z => z.elim (fun y => absurd y (h1 zk hk)) (fun y => ((nI_eq (by omega) (by omega)).mp y).symm), rfl⟩)
    · rw [if_neg (by rw [h4]; exact nI_m4 zd (by omega))]
      by_cases z : zx = nI zc
      · rw [if_pos z]
        have e : zd = zc := (nI_eq (by omega) (by omega)).mp (h4.symm.trans z)
        subst e
        exact Or.inr (Or.inl ⟨zd, h1, Or.inl h2, fun zk hk y => y.elim (h3 zk hk) (fun q => ((nI_eq (by omega) (by omega)).mp q).symm), h4⟩)
      · rw [if_neg z]
        exact Or.inr (Or.inr ⟨⟨zd, zc, h1, hc, fun y => z (by rw [h4, y]), Or.inl h2, Or.inr rfl⟩, rfl⟩)
    · rw [h6, if_neg (by decide), if_neg (fun z => nI_m2 zc (by omega) z.symm)]
      exact Or.inr (Or.inr ⟨⟨za, zb, h1, h2, h3, Or.inl h4, Or.inl h5⟩, rfl⟩)
theorem VW_v (zp : Nat → Bool) : ∀ zn, zn ≤ 6 → VWz (fun zk => zk < zn ∧ zp zk = true) (vdN zp zn)
  | 0, _ => Or.inl ⟨fun zk _ z => absurd z.1 (Nat.not_lt_zero _), by rw [vdN]⟩
  | zn + 1, hn => by
    have h := VW_v zp zn (by omega)
    rw [vdN]
    by_cases z : zp zn = true
    · rw [if_pos z]
      rcases h with ⟨h1, h2⟩ | ⟨zd, h1, h2, h3, h4⟩ | ⟨⟨za, zb, h1, h2, h3, h4, h5⟩, h6⟩
      · rw [if_pos h2]
        refine Or.inr (Or.inl ⟨zn, by omega, ⟨by omega, z⟩, fun zk hk y => ?_, rfl⟩)
        rcases Nat.lt_or_ge zk zn with q | q
        · exact absurd ⟨q, y.2⟩ (h1 zk hk)
        · omega
      · rw [if_neg (by rw [h4]; exact nI_m4 zd (by omega))]
        exact Or.inr (Or.inr ⟨⟨zd, zn, h1, by omega, by omega, ⟨by omega, h2.2⟩, ⟨by omega, z⟩⟩, rfl⟩)
      · rw [if_neg (by rw [h6]; decide)]
        exact Or.inr (Or.inr ⟨⟨za, zb, h1, h2, h3, ⟨by omega, h4.2⟩, ⟨by omega, h5.2⟩⟩, rfl⟩)
    · rw [if_neg z]
      refine VW_c h (fun zk hk => ⟨fun y => ⟨by omega, y.2⟩, fun y => ⟨?_, y.2⟩⟩)
      rcases Nat.lt_or_ge zk zn with q | q
      · exact q
      · rw [show zk = zn by omega] at y
        exact absurd y.2 z
theorem VW_2 {zP zQ : Nat → Prop} {zx zy : Int32} (h : VWz zP zx) (g : VWz zQ zy) : VWz (fun zk => zP zk ∨ zQ zk) (suI zx zy) := by
  unfold suI
  rcases h with ⟨h1, h2⟩ | ⟨zc, h1, h2, h3, h4⟩ | ⟨⟨za, zb, h1, h2, h3, h4, h5⟩, h6⟩
  · subst h2
    rcases g with ⟨g1, g2⟩ | ⟨zd, g1, g2, g3, g4⟩ | ⟨⟨zu, zv, g1, g2, g3, g4, g5⟩, g6⟩
    · subst g2
      exact Or.inl ⟨fun zk hk z => z.elim (h1 zk hk) (g1 zk hk), by decide⟩
    · rw [if_neg (fun z => z.elim (by decide) (by rw [g4]; exact nI_m2 zd (by omega))), if_pos rfl]
      exact Or.inr (Or.inl ⟨zd, g1, Or.inr g2, fun zk hk z => z.elim (fun y => absurd y (h1 zk hk)) (g3 zk hk), g4⟩)
    · rw [if_pos (Or.inr g6)]
      exact Or.inr (Or.inr ⟨⟨zu, zv, g1, g2, g3, Or.inr g4, Or.inr g5⟩, rfl⟩)
  · subst h4
    rcases g with ⟨g1, g2⟩ | ⟨zd, g1, g2, g3, g4⟩ | ⟨⟨zu, zv, g1, g2, g3, g4, g5⟩, g6⟩
    · subst g2
      rw [if_neg (fun z => z.elim (nI_m2 zc (by omega)) (by decide)), if_neg (nI_m4 zc (by omega)), if_pos (Or.inl rfl)]
      exact Or.inr (Or.inl ⟨zc, h1, Or.inl h2, fun zk hk z => z.elim (h3 zk hk) (fun y => absurd y (g1 zk hk)), rfl⟩)
    · subst g4
      rw [if_neg (fun z => z.elim (nI_m2 zc (by omega)) (nI_m2 zd (by omega))), if_neg (nI_m4 zc (by omega))]
      by_cases e : zc = zd
      · subst e
        rw [if_pos (Or.inr rfl)]
        exact Or.inr (Or.inl ⟨zc, h1, Or.inl h2, fun zk hk z => z.elim (h3 zk hk) (g3 zk hk), rfl⟩)
      · rw [if_neg (fun z => z.elim (nI_m4 zd (by omega)) (fun y => e ((nI_eq (by omega) (by omega)).mp y)))]
        exact Or.inr (Or.inr ⟨⟨zc, zd, h1, g1, e, Or.inl h2, Or.inr g2⟩, rfl⟩)
    · rw [if_pos (Or.inr g6)]
      exact Or.inr (Or.inr ⟨⟨zu, zv, g1, g2, g3, Or.inr g4, Or.inr g5⟩, rfl⟩)
  · rw [if_pos (Or.inl h6)]
    exact Or.inr (Or.inr ⟨⟨za, zb, h1, h2, h3, Or.inl h4, Or.inl h5⟩, rfl⟩)
/-- of every cell: what is said of it, and its word -/
def SWz (zP : Nat → Nat → Prop) (zg : Nat → Int32) : Prop := ∀ zj, zj < 64 → VWz (fun zk => zP zk zj) (zg zj)
theorem SW_c {zP zQ : Nat → Nat → Prop} {zg : Nat → Int32} (h : SWz zP zg) (H : ∀ zk zj, zk < 6 → zj < 64 → (zP zk zj ↔ zQ zk zj)) : SWz zQ zg := fun zj hj => VW_c (h zj hj) (fun zk hk => H zk zj hk hj)
theorem SW_u {zP : Nat → Nat → Prop} {zg : Nat → Int32} {zi : Nat} {zs : Int32} (hs : zs = -4 ∨ zs = -1 ∨ ∃ zc, zc < 6 ∧ zs = nI zc) (h : SWz zP zg) : SWz (fun zk zj => zP zk zj ∨ (zj = zi ∧ zs = nI zk)) (upd zg zi (wdI (zg zi) zs)) := by
  intro zj hj
  unfold upd
  by_cases z : zj = zi
  · rw [if_pos z]
    subst z
    exact VW_c (VW_s hs (h zj hj)) (fun zk hk => ⟨fun y => y.elim Or.inl (fun q => Or.inr ⟨rfl, q⟩), fun y => y.elim Or.inl (fun q => Or.inr q.2)⟩)
  · rw [if_neg z]
    exact VW_c (h zj hj) (fun zk hk => ⟨Or.inl, fun y => y.elim id (fun q => absurd q.1 z)⟩)
theorem co_say {zf : Nat → Int32} (h : COz zf) {zj : Nat} (hj : zj < 64) : zf zj = -4 ∨ zf zj = -1 ∨ ∃ zc, zc < 6 ∧ zf zj = nI zc := Or.inr (h zj hj)
theorem sw_F {zf : Nat → Int32} (hc : COz zf) {zw : Nat} (hw : zw < 8) {zP : Nat → Nat → Prop} {zg : Nat → Int32} (h : SWz zP zg) : ∀ zn, zn ≤ 64 → SWz (fun zk zj => zP zk zj ∨ ∃ zc, zc < zn ∧ ((zj = zc ∧ zf (srN 8 zw zc) = nI zk) ∨ (zj = srN 8 zw zc ∧ zf zc = nI zk))) (swF zf zw zg zn)
  | 0, _ => by
    rw [swF]
    exact SW_c h (fun zk zj _ _ => ⟨Or.inl, fun y => y.elim id (fun ⟨zc, q, _⟩ => absurd q (Nat.not_lt_zero _))⟩)
  | zn + 1, hn => by
    rw [swF]
    have z1 := (sr8 zw hw zn (by omega)).2
    refine SW_c (SW_u (co_say hc (by omega)) (SW_u (zi := zn) (co_say hc z1) (sw_F hc hw h zn (by omega)))) (fun zk zj hk hj => ?_)
    constructor
    · rintro (((y | ⟨zc, q1, q2⟩) | y) | y)
      · exact Or.inl y
      · exact Or.inr ⟨zc, by omega, q2⟩
      · exact Or.inr ⟨zn, by omega, Or.inl y⟩
      · exact Or.inr ⟨zn, by omega, Or.inr y⟩
    · rintro (y | ⟨zc, q1, q2⟩)
      · exact Or.inl (Or.inl (Or.inl y))
      · rcases Nat.lt_or_ge zc zn with q | q
        · exact Or.inl (Or.inl (Or.inr ⟨zc, q, q2⟩))
        · rw [show zc = zn by omega] at q2
          rcases q2 with q2 | q2
          · exact Or.inl (Or.inr q2)
          · exact Or.inr q2
theorem sw_O {zf : Nat → Int32} (hc : COz zf) {zP : Nat → Nat → Prop} {zg : Nat → Int32} (h : SWz zP zg) : ∀ zn, zn ≤ 7 → SWz (fun zk zj => zP zk zj ∨ ∃ za, za < zn ∧ hoF zf (za + 1) 64 = 1 ∧ ∃ zc, zc < 64 ∧ ((zj = zc ∧ zf (srN 8 (za + 1) zc) = nI zk) ∨ (zj = srN 8 (za + 1) zc ∧ zf zc = nI zk))) (swO zf (syF zf 7) zg zn)
  | 0, _ => by
    rw [swO]
    exact SW_c h (fun zk zj _ _ => ⟨Or.inl, fun y => y.elim id (fun ⟨za, q, _⟩ => absurd q (Nat.not_lt_zero _))⟩)
  | zn + 1, hn => by
    have z1 : (syF zf 7 >>> (nI (zn + 1) &&& 31)) &&& 1 = 1 ↔ hoF zf (zn + 1) 64 = 1 := by
      rw [sh1_1 _ (by omega), syF_b zf 7 (by omega) (zn + 1) (by omega), decide_eq_true (by omega : 1 ≤ zn + 1 ∧ zn + 1 ≤ 7), Bool.true_and, decide_eq_true_eq]
    by_cases z : hoF zf (zn + 1) 64 = 1
    · rw [swO_u (z1.mpr z)]
      refine SW_c (sw_F hc (by omega) (sw_O hc h zn (by omega)) 64 (Nat.le_refl _)) (fun zk zj hk hj => ?_)
      constructor
      · rintro ((y | ⟨za, q1, q2⟩) | y)
        · exact Or.inl y
        · exact Or.inr ⟨za, by omega, q2⟩
        · exact Or.inr ⟨zn, by omega, z, y⟩
      · rintro (y | ⟨za, q1, q2⟩)
        · exact Or.inl (Or.inl y)
        · rcases Nat.lt_or_ge za zn with q | q
          · exact Or.inl (Or.inr ⟨za, q, q2⟩)
          · rw [show za = zn by omega] at q2
            exact Or.inr q2.2
    · rw [swO_n (fun y => z (z1.mp y))]
      refine SW_c (sw_O hc h zn (by omega)) (fun zk zj hk hj => ?_)
      constructor
      · rintro (y | ⟨za, q1, q2⟩)
        · exact Or.inl y
        · exact Or.inr ⟨za, by omega, q2⟩
      · rintro (y | ⟨za, q1, q2⟩)
        · exact Or.inl y
        · rcases Nat.lt_or_ge za zn with q | q
          · exact Or.inr ⟨za, q, q2⟩
          · rw [show za = zn by omega] at q2
            exact absurd q2.1 z
theorem nf4_at (zf : Nat → Int32) : ∀ zn zj, nf4 zf zn zj = if zj < zn then -4 else zf zj
  | 0, zj => by rw [nf4, if_neg (by omega)]
  | zn + 1, zj => by
    rw [nf4]
    unfold upd
    by_cases z : zj = zn
    · rw [if_pos z, if_pos (by omega)]
    · rw [if_neg z, nf4_at zf zn zj]
      by_cases y : zj < zn
      · rw [if_pos y, if_pos (by omega)]
      · rw [if_neg y, if_neg (by omega)]
theorem SW_0 (zf : Nat → Int32) : SWz (fun _ _ => False) (nf4 zf 64) := fun zj hj => by
  rw [nf4_at, if_pos hj]
  exact Or.inl ⟨fun _ _ z => z, rfl⟩
theorem im_sr : ∀ zw, zw < 8 → ∀ zc, zc < 64 → imN zw (srN 8 zw zc) = zc ∧ srN 8 zw (imN zw zc) = zc ∧ imN zw zc < 64 := by decide +kernel
theorem sy_word {zh : AH} (hc : COz (zh.2.1 69)) : SWz (fun zk zj => syS (zh.2.1 69) 7 zk zj) (syW zh) := by
  unfold syW
  refine SW_c (sw_O hc (SW_0 _) 7 (by omega)) (fun zk zj hk hj => ?_)
  constructor
  · rintro (y | ⟨za, q1, q2, zc, q3, q4⟩)
    · exact y.elim
    · refine ⟨za, q1, q2, srN 8 (za + 1) zc, (sr8 (za + 1) (by omega) zc q3).2, ?_⟩
      rw [(im_sr (za + 1) (by omega) zc q3).1]
      rcases q4 with ⟨q4, q5⟩ | ⟨q4, q5⟩
      · exact Or.inl ⟨q5, q4.symm⟩
      · exact Or.inr ⟨q5, q4.symm⟩
  · rintro ⟨za, q1, q2, zi, q3, q4⟩
    refine Or.inr ⟨za, q1, q2, imN (za + 1) zi, (im_sr (za + 1) (by omega) zi q3).2.2, ?_⟩
    rw [(im_sr (za + 1) (by omega) zi q3).2.1]
    rcases q4 with ⟨q4, q5⟩ | ⟨q4, q5⟩
    · exact Or.inl ⟨q5.symm, q4⟩
    · exact Or.inr ⟨q5.symm, q4⟩
theorem bw_Q {zt : Nat → Int32} {zp : Nat → Nat} {zP : Nat → Nat → Prop} {zg : Nat → Int32} (h : SWz zP zg) : ∀ zn, (∀ zi, zi < zn → zt zi = -4 ∨ zt zi = -1 ∨ ∃ zc, zc < 6 ∧ zt zi = nI zc) → SWz (fun zk zj => zP zk zj ∨ ∃ zi, zi < zn ∧ zj = zp zi ∧ zt zi = nI zk) (bwQ zt zp zg zn)
  | 0, _ => by
    rw [bwQ]
    exact SW_c h (fun zk zj _ _ => ⟨Or.inl, fun y => y.elim id (fun ⟨zi, q, _⟩ => absurd q (Nat.not_lt_zero _))⟩)
  | zn + 1, hs => by
    rw [bwQ]
    refine SW_c (SW_u (zi := zp zn) (hs zn (by omega)) (bw_Q h zn (fun zi hz => hs zi (by omega)))) (fun zk zj hk hj => ?_)
    constructor
    · rintro ((y | ⟨zi, q1, q2⟩) | y)
      · exact Or.inl y
      · exact Or.inr ⟨zi, by omega, q2⟩
      · exact Or.inr ⟨zn, by omega, y⟩
    · rintro (y | ⟨zi, q1, q2⟩)
      · exact Or.inl (Or.inl y)
      · rcases Nat.lt_or_ge zi zn with q | q
        · exact Or.inl (Or.inr ⟨zi, q, q2⟩)
        · rw [show zi = zn by omega] at q2
          exact Or.inr q2
theorem bkS_s {zc : Nat → Nat → Nat} {zf : Nat → Int32} {zn zk zj : Nat} : bkS zc zf (zn + 1) zk zj ↔ bkS zc zf zn zk zj ∨ (4 ≤ acV zc zf zn ∧ tcN zc zn zj = zk) := by
  constructor
  · rintro ⟨zi, q1, q2⟩
    rcases Nat.lt_or_ge zi zn with q | q
    · exact Or.inl ⟨zi, q, q2⟩
    · rw [show zi = zn by omega] at q2
      exact Or.inr q2
  · rintro (⟨zi, q1, q2⟩ | q)
    · exact ⟨zi, by omega, q2⟩
    · exact ⟨zn, by omega, q⟩
theorem bk_word {zt : PSt} {zh : AH} (zO : POK zt) (zE : ENz zt zh) (zf : Nat → Int32) : ∀ zk, zk ≤ 1024 * zt.1 2 → SWz (fun zc zj => bkS (bkc zt) (zh.2.1 69) (nbN zk) zc zj) (bwK zh (nf4 zf 64) zk)
  | 0, _ => by
    rw [bwK, show nbN 0 = 0 from rfl]
    exact SW_c (SW_0 zf) (fun zc zj _ _ => ⟨fun z => z.elim, fun ⟨zi, q, _⟩ => absurd q (Nat.not_lt_zero _)⟩)
  | zk + 1, hk => by
    have ih := bk_word zO zE zf zk (by omega)
    have hb := zO.2.1
    by_cases z1 : cvz (zk / 64 % 8) (zk / 512 % 2 + 1) (zk % 64)
    · have hp : zk / 1024 < zt.1 2 := by omega
      obtain ⟨n1, n2⟩ := nb_y z1
      have yb := ctT_b (tcN (bkc zt) (cnN (zk / 1024) (zk / 64 % 8) (zk / 512 % 2 + 1) (zk % 64))) (clQ (zh.2.1 69)) 6
      have ya := ctT_b (tcN (bkc zt) (cnN (zk / 1024) (zk / 64 % 8) (zk / 512 % 2 + 1) (zk % 64))) (agQ (zh.2.1 69)) 6
      have zc := (cpy_iff (zp := zk / 1024) (zw := zk / 64 % 8) (zs := zk / 512 % 2 + 1) (ze := zk % 64) hb (by omega) (by omega) (by omega) (by omega)).mpr ⟨hp, z1⟩
      have zq : (clN zh (zk / 1024) (zk / 64 % 8) (zk / 512 % 2 + 1) (zk % 64) = 0 ∧ 3 < agN zh (zk / 1024) (zk / 64 % 8) (zk / 512 % 2 + 1) (zk % 64)) ↔ 4 ≤ acV (bkc zt) (zh.2.1 69) (nbN zk) := by
        rw [cl_ct zO zE hp z1, ag_ct zO zE hp z1, ← n1]
        unfold acV
        by_cases z2 : ctT (tcN (bkc zt) (cnN (zk / 1024) (zk / 64 % 8) (zk / 512 % 2 + 1) (zk % 64))) (clQ (zh.2.1 69)) 6 = 0
        · rw [if_pos z2, z2]
          have e1 : (3 : Int32) < nI (ctT (tcN (bkc zt) (cnN (zk / 1024) (zk / 64 % 8) (zk / 512 % 2 + 1) (zk % 64))) (agQ (zh.2.1 69)) 6) ↔ 3 < ctT (tcN (bkc zt) (cnN (zk / 1024) (zk / 64 % 8) (zk / 512 % 2 + 1) (zk % 64))) (agQ (zh.2.1 69)) 6 := nI_ltI (a := 3) (by decide) (by omega)
          have e2 : (4 : Int32) ≤ nI (ctT (tcN (bkc zt) (cnN (zk / 1024) (zk / 64 % 8) (zk / 512 % 2 + 1) (zk % 64))) (agQ (zh.2.1 69)) 6) ↔ 4 ≤ ctT (tcN (bkc zt) (cnN (zk / 1024) (zk / 64 % 8) (zk / 512 % 2 + 1) (zk % 64))) (agQ (zh.2.1 69)) 6 := nI_leI (a := 4) (by decide) (by omega)
          rw [e1, e2]
          exact ⟨fun y => y.2, fun y => ⟨rfl, y⟩⟩
        · rw [if_neg z2]
          exact ⟨fun y => absurd y.1 (nI_ne0 (by omega) (by omega)), fun y => absurd y (by decide)⟩
      by_cases z2 : 4 ≤ acV (bkc zt) (zh.2.1 69) (nbN zk)
      · rw [bwK_u ⟨by rw [zE.2.1]; exact zc, zq.mpr z2⟩]
        refine SW_c (bw_Q ih _ (fun zi hz => ?_)) (fun zd zj hd hj => ?_)
        · obtain ⟨y1, y2⟩ := tl_told zO zE hp z1.1 z1.2.1 hz
          rw [y1]
          by_cases y3 : bkc zt (zk / 1024) (frN (zk / 64 % 8) (zk / 512 % 2 + 1) zi) = 6
          · exact Or.inl ((clV_6 y2).mpr y3)
          · exact Or.inr (Or.inr ⟨_, by omega, clV_n (by omega)⟩)
        · rw [n2, bkS_s]
          constructor
          · rintro (y | ⟨zi, q1, q2, q3⟩)
            · exact Or.inl y
            · refine Or.inr ⟨z2, ?_⟩
              obtain ⟨y1, y2⟩ := tl_told zO zE hp z1.1 z1.2.1 q1
              rw [q2, ← n1, tc_sp _ z1 q1]
              rw [y1] at q3
              by_cases y3 : bkc zt (zk / 1024) (frN (zk / 64 % 8) (zk / 512 % 2 + 1) zi) = 6
              · rw [(clV_6 y2).mpr y3] at q3
                exact absurd q3.symm (nI_m4 zd (by omega))
              · rw [clV_n (by omega)] at q3
                exact (nI_eq (by omega) (by omega)).mp q3
          · rintro (y | ⟨-, y⟩)
            · exact Or.inl y
            · rw [← n1] at y
              obtain ⟨zi, q1, q2⟩ := tc_out (bkc zt) (zp := zk / 1024) z1 hj (by omega)
              refine Or.inr ⟨zi, q1, q2.symm, ?_⟩
              obtain ⟨y1, y2⟩ := tl_told zO zE hp z1.1 z1.2.1 q1
              rw [y1]
              rw [← q2, tc_sp _ z1 q1] at y
              rw [y]
              exact clV_n hd
      · rw [bwK_n (fun z => z2 (zq.mp z.2)), n2]
        exact SW_c ih (fun zd zj _ _ => ⟨fun y => bkS_s.mpr (Or.inl y), fun y => (bkS_s.mp y).elim id (fun q => absurd q.1 z2)⟩)
    · rw [bwK_n (fun z => z1 ((cpy_iff (zp := zk / 1024) (zw := zk / 64 % 8) (zs := zk / 512 % 2 + 1) (ze := zk % 64) hb (by omega) (by omega) (by omega) (by omega)).mp (by rw [← zE.2.1]; exact z.1)).2), nb_n z1]
      exact ih
theorem bkW_word {zt : PSt} {zh : AH} (zO : POK zt) (zE : ENz zt zh) : SWz (fun zc zj => bkS (bkc zt) (zh.2.1 69) (zt.1 2 * 208) zc zj) (bkW zh (zt.1 2)) := by
  unfold bkW
  have z := bk_word zO zE (zh.2.1 71) (1024 * zt.1 2) (Nat.le_refl _)
  rw [show nbN (1024 * zt.1 2) = zt.1 2 * 208 by unfold nbN; rw [show 1024 * zt.1 2 / 1024 = zt.1 2 by omega, show 1024 * zt.1 2 % 1024 = 0 by omega, show nb0 0 = 0 from rfl]; omega] at z
  exact z
theorem suW_word {zt : PSt} {zh : AH} (zO : POK zt) (zE : ENz zt zh) (hc : COz (zh.2.1 69)) : SWz (fun zc zj => gaP (bkc zt) (zt.1 2) (zh.2.1 69) 2 zc zj) (fun zj => suW zh (zt.1 2) zj) := fun zj hj => by
  refine VW_c (VW_2 (sy_word hc zj hj) (bkW_word zO zE zj hj)) (fun zk hk => ?_)
  unfold gaP
  constructor
  · rintro (y | y)
    · exact Or.inl ⟨by decide, y⟩
    · exact Or.inr ⟨by decide, y⟩
  · rintro (y | y)
    · exact Or.inl y.2
    · exact Or.inr y.2
theorem SD_word {zP : Nat → Nat → Prop} {zr : Nat → Int64} (h : SDr zP zr) {zj : Nat} (hj : zj < 64) : VWz (fun zk => zP zk zj) (vdN (fun zk => lbt (zr zk) zj) 6) :=
  VW_c (VW_v (fun zk => lbt (zr zk) zj) 6 (Nat.le_refl _)) (fun zk hk => ⟨fun y => (h zk hk zj hj).mp y.2, fun y => ⟨hk, (h zk hk zj hj).mpr y⟩⟩)
theorem InV_33 {zn : Nat} {zh : AH} (zr : Nat → Int64) (hi : InV zn zh) : InV zn (sL zh 33 zr) := by
  obtain ⟨zw, zT, zS, zF, zB, zH, zX⟩ := hi
  exact ⟨zw, IvT_c zT ⟨rfl, rfl⟩ ⟨rfl, rfl⟩, IvS_c zS ⟨fun _ _ _ _ => rfl, rfl, rfl, rfl, rfl⟩ ⟨rfl, rfl, rfl, fun _ _ _ => rfl⟩, IvF_k zF ⟨rfl, rfl, rfl, rfl, rfl, rfl⟩ ⟨rfl, rfl, rfl⟩, IvB_c zB ⟨rfl, rfl⟩ ⟨rfl, rfl⟩, IvH_c zH (fun _ _ _ => rfl) ⟨rfl, rfl, rfl⟩, IvX_c zX ⟨rfl, rfl⟩ ⟨rfl, rfl, rfl, rfl⟩⟩
theorem st_may (E : ME) {zn : Nat} {zh : AH} (hi : InV zn zh) (ze zv : Int32) : StI E zn mX10_may mX11_may 6 5 [.int ze, .int zv] zh := by
  obtain ⟨yw, zT, ⟨zt, zO, zE, zY, zQ, zK⟩, zF, zB, zH, zX⟩ := id hi
  have c1 := cn_X10_may E zh ze zv (bkc zt) (zt.1 2) _ _ yw zK.1 zO.2.1 zK.2 zF.1 zF.2.2.2.2.1
  by_cases zC : (0 ≤ ze ∧ ze ≤ 63) ∧ zh.2.1 69 ze.toNatClampNeg = -1 ∧ (0 ≤ zv ∧ zv ≤ 2)
  · refine ⟨_, c1, fun zx h1 z1 => ?_⟩
    obtain ⟨zr, z2, z3, rfl⟩ := z1.1 zC
    have c2 := cn_X11_may E (sL zh 33 zr) ze zv (zt.1 2) yw zE.2.1 zO.2.1
    have zC1 : (0 ≤ ze ∧ ze ≤ 63) ∧ (sL zh 33 zr).2.1 69 ze.toNatClampNeg = -1 ∧ (0 ≤ zv ∧ zv ≤ 2) := zC
    rw [if_pos zC1] at c2
    have zE1 : ENz zt (sL zh 33 zr) := zE
    have hj : ze.toNatClampNeg < 64 := Nat.lt_of_le_of_lt (cl_le (za := 63) zC.1 (by decide)).1 (by decide)
    have x1 := SD_word z2 hj
    refine ⟨_, z3, _, yw, c2, fun zw h2 z4 => ⟨?_, Ms_i (Ms_lwX z4.2) (InV_33 zr hi)⟩⟩
    rw [z4.1]
    congr 2
    rcases v_2.mp zC.2.2 with rfl | rfl | rfl
    · rw [if_pos rfl]
      refine VW_u (VW_c (sy_word (zh := sL zh 33 zr) zF.1.2.1 _ hj) (fun zk hk => ?_)) x1
      exact ⟨fun y => Or.inl ⟨by decide, y⟩, fun y => y.elim (fun q => q.2) (fun q => absurd rfl q.1)⟩
    · rw [if_neg (by decide), if_pos rfl]
      refine VW_u (VW_c (bkW_word zO zE1 _ hj) (fun zk hk => ?_)) x1
      exact ⟨fun y => Or.inr ⟨by decide, y⟩, fun y => y.elim (fun q => absurd rfl q.1) (fun q => q.2)⟩
    · rw [if_neg (by decide), if_neg (by decide)]
      exact VW_u (suW_word zO zE1 zF.1.2.1 _ hj) x1
  · refine ⟨_, c1, fun zx h1 z1 => ?_⟩
    obtain ⟨z2, rfl⟩ := z1.2 zC
    have c2 := cn_X11_may E h1 ze zv (zt.1 2) yw zE.2.1 zO.2.1
    rw [if_neg zC] at c2
    exact ⟨_, z2, _, yw, c2, fun zw h2 z4 => ⟨z4.1, Ms_i (Ms_lwX z4.2) hi⟩⟩
theorem on_iff (zr : Nat → Int64) (zj : Nat) : ∀ zn, lbt (onL zr zn) zj = true ↔ ∃ zk, zk < zn ∧ lbt (zr zk) zj = true
  | 0 => by
    rw [onL, lb_0]
    exact ⟨fun z => absurd z (by decide), fun ⟨zk, z, _⟩ => absurd z (Nat.not_lt_zero _)⟩
  | zn + 1 => by
    rw [onL, lb_or, Bool.or_eq_true, on_iff zr zj zn]
    constructor
    · rintro (⟨zk, z1, z2⟩ | z)
      · exact ⟨zk, by omega, z2⟩
      · exact ⟨zn, by omega, z⟩
    · rintro ⟨zk, z1, z2⟩
      rcases Nat.lt_or_ge zk zn with q | q
      · exact Or.inl ⟨zk, q, z2⟩
      · rw [show zk = zn by omega] at z2
        exact Or.inr z2
theorem un_iff (zr : Nat → Int64) (zj : Nat) : ∀ zn, lbt (unL zr zn) zj = true ↔ ∃ za zb, za < zb ∧ zb < zn ∧ lbt (zr za) zj = true ∧ lbt (zr zb) zj = true
  | 0 => by
    rw [unL, lb_0]
    exact ⟨fun z => absurd z (by decide), fun ⟨za, zb, _, z, _⟩ => absurd z (Nat.not_lt_zero _)⟩
  | zn + 1 => by
    rw [unL, lb_or, Bool.or_eq_true, un_iff zr zj zn, lb_and, Bool.and_eq_true, on_iff]
    constructor
    · rintro (⟨za, zb, z1, z2, z3⟩ | ⟨⟨zk, z1, z2⟩, z3⟩)
      · exact ⟨za, zb, z1, by omega, z3⟩
      · exact ⟨zk, zn, z1, by omega, z2, z3⟩
    · rintro ⟨za, zb, z1, z2, z3, z4⟩
      rcases Nat.lt_or_ge zb zn with q | q
      · exact Or.inl ⟨za, zb, z1, q, z3, z4⟩
      · rw [show zb = zn by omega] at z4 z1
        exact Or.inr ⟨⟨za, z1, z3⟩, z4⟩
theorem VW_bits {zP : Nat → Nat → Prop} {zr : Nat → Int64} (h : SDr zP zr) {zj : Nat} (hj : zj < 64) {zx : Int32} (hx : VWz (fun zk => zP zk zj) zx) : (zx = -4 ↔ lbt (onL zr 6) zj = false) ∧ (zx = -2 ↔ lbt (unL zr 6) zj = true) ∧ (0 ≤ zx ↔ lbt (onL zr 6) zj = true ∧ lbt (unL zr 6) zj = false) := by
  have g : ∀ zk, zk < 6 → (lbt (zr zk) zj = true ↔ zP zk zj) := fun zk hk => h zk hk zj hj
  rcases hx with ⟨h1, h2⟩ | ⟨zc, h1, h2, h3, h4⟩ | ⟨⟨za, zb, h1, h2, h3, h4, h5⟩, h6⟩
  · have o1 : lbt (onL zr 6) zj = false := ts_nt (fun z => by
      obtain ⟨zk, y1, y2⟩ := (on_iff zr zj 6).mp z
      exact h1 zk y1 ((g zk y1).mp y2))
    have o2 : lbt (unL zr 6) zj = false := ts_nt (fun z => by
      obtain ⟨za, zb, y1, y2, y3, y4⟩ := (un_iff zr zj 6).mp z
      exact h1 zb y2 ((g zb y2).mp y4))
    rw [o1, o2, h2]
    exact ⟨by decide, by decide, by decide⟩
  · have o1 : lbt (onL zr 6) zj = true := (on_iff zr zj 6).mpr ⟨zc, h1, (g zc h1).mpr h2⟩
    have o2 : lbt (unL zr 6) zj = false := ts_nt (fun z => by
      obtain ⟨za, zb, y1, y2, y3, y4⟩ := (un_iff zr zj 6).mp z
      have q1 := h3 za (by omega) ((g za (by omega)).mp y3)
      have q2 := h3 zb y2 ((g zb y2).mp y4)
      omega)
    rw [o1, o2, h4]
    exact ⟨⟨fun z => absurd z (nI_m4 zc (by omega)), fun z => absurd z (by decide)⟩, ⟨fun z => absurd z (nI_m2 zc (by omega)), fun z => absurd z (by decide)⟩, ⟨fun _ => ⟨rfl, rfl⟩, fun _ => nI_pos' (by omega)⟩⟩
  · have o1 : lbt (onL zr 6) zj = true := (on_iff zr zj 6).mpr ⟨za, h1, (g za h1).mpr h4⟩
    have o2 : lbt (unL zr 6) zj = true := (un_iff zr zj 6).mpr (by
      rcases Nat.lt_or_ge za zb with q | q
      · exact ⟨za, zb, q, h2, (g za h1).mpr h4, (g zb h2).mpr h5⟩
      · exact ⟨zb, za, by omega, h1, (g zb h2).mpr h5, (g za h1).mpr h4⟩)
    rw [o1, o2, h6]
    exact ⟨by decide, by decide, by decide⟩
