theorem bl_r {zh : AH} {zt : PSt} {zk : Nat} (h : zk ≠ 30) : (blH zh zt).2.1 zk = zh.2.1 zk := by
  unfold blH
  exact if_neg h
theorem FrR_D {zq : Nat} {zh zk zg : AH} (h1 : FrR zq zh zk) (h2 : FrD zq zk zg) : FrR zq zh zg :=
  ⟨h2.1.trans h1.1, by rw [h2.2.1]; exact h1.2.1, fun za zb z => by rw [h2.2.1]; exact h1.2.2.1 za zb z, fun za a1 a2 a3 => (h2.2.2.1 za a1 a2 a3).trans (h1.2.2.2.1 za a1 a2 a3), h2.2.2.2.trans h1.2.2.2.2⟩
theorem tx_com {zn : Nat} {zh h2 : AH} (hi : InV zn zh) (r1 : ∀ zk, zk ≠ 1 → ¬ (3 ≤ zk ∧ zk ≤ 24) → zk ≠ 30 → zk < 49 → h2.2.1 zk = zh.2.1 zk) (r2 : ∀ zk, 49 < zk → (zk < 53 ∨ 65 < zk) → h2.2.1 zk = zh.2.1 zk) (r3 : ∀ zj, ¬ pFz zj → zj ≠ 1 → zj ≠ 2 → zj ≠ 14 → zj ≠ 16 → zj ≠ 17 → h2.2.1 49 zj = zh.2.1 49 zj) (r4 : ∀ zk, zk ≠ 31 → h2.2.2.1 zk = zh.2.2.1 zk) (t1 : h2.2.1 1 1 = 0) (t2 : h2.2.1 49 1 = 0) (x1 : h2.2.1 19 3 = h2.2.1 49 2) : IvT h2 h2 ∧ IvF (zn + 1) h2 h2 ∧ IvB h2 h2 ∧ IvH h2 h2 ∧ IvX h2 h2 := by
  obtain ⟨zw, zT, zS, zF, zB, zH, zX⟩ := hi
  refine ⟨⟨fun _ => 0, 0, ⟨t1, Nat.zero_le _, fun zk hk => absurd hk (Nat.not_lt_zero _)⟩, ⟨t2, Nat.zero_le _, fun zk hk => absurd hk (Nat.not_lt_zero _)⟩⟩, IvF_c zF ⟨r1 25 (by omega) (by omega) (by omega) (by omega), r1 26 (by omega) (by omega) (by omega) (by omega), r1 28 (by omega) (by omega) (by omega) (by omega), r1 36 (by omega) (by omega) (by omega) (by omega), r4 25 (by omega), r4 27 (by omega)⟩ ⟨r2 69 (by omega) (by omega), r3 38 (by unfold pFz; omega) (by omega) (by omega) (by omega) (by omega) (by omega), by rw [r4 49 (by omega)]⟩, IvB_c zB ⟨r1 35 (by omega) (by omega) (by omega) (by omega), by rw [r1 34 (by omega) (by omega) (by omega) (by omega)]⟩ ⟨r2 68 (by omega) (by omega), r3 35 (by unfold pFz; omega) (by omega) (by omega) (by omega) (by omega) (by omega)⟩, IvH_c zH (fun zk y1 y2 => r1 zk (by omega) (by omega) (by omega) (by omega)) ⟨r2 73 (by omega) (by omega), r2 74 (by omega) (by omega), r2 75 (by omega) (by omega)⟩, ⟨?_, x1, ?_⟩⟩
  · rw [r1 0 (by omega) (by omega) (by omega) (by omega), r3 48 (by unfold pFz; omega) (by omega) (by omega) (by omega) (by omega) (by omega)]
    exact zX.1
  · unfold KTz
    rw [r2 51 (by omega) (by omega), r2 52 (by omega) (by omega)]
    exact zX.2.2
theorem tx_bad {zn zq : Nat} {zh zg h2 : AH} {zr : (Nat × Nat) × Nat × PSt} {zx : Int32} (hi : InV zn zh) (hq : zq = 3 ∨ zq = 11) (ho : zh.2.2.2 0 2 = some zq) (hf : FrR zq zh zg) (hw : WF zg) (h0 : ¬ zr.1.1 = 0) (h3 : zg.2.1 19 3 = nI zr.1.1) (hX : TXz zr (eT zg) h2 zx) : InV (zn + 1) h2 := by
  obtain ⟨-, g1, g2, g3, g4, g5, g6, g7, -⟩ := hX
  obtain ⟨g71, g72, g73, g74⟩ := g7 h0
  have e1 : ∀ zk, zk ≠ 1 → (eT zg).2.1 zk = zg.2.1 zk := fun zk z => sI_ne _ _ z
  have r0 : ∀ zk, zk ≠ 1 → zk ≠ 19 → (zk < zq ∨ zq + 7 < zk) → zk ≠ 49 → (zk < 53 ∨ 65 < zk) → h2.2.1 zk = zh.2.1 zk := fun zk a1 a2 a3 a4 a5 => (g3 zk a4 a5).trans ((e1 zk a1).trans (hf.2.2.2.1 zk a1 a2 a3))
  have r6 : ∀ zj, (eT zg).2.1 49 zj = zh.2.1 49 zj := fun zj => by
    rw [e1 49 (by omega), hf.2.2.2.1 49 (by omega) (by omega) (by omega)]
  have r7 : ∀ zk, 53 ≤ zk → zk ≤ 58 → h2.2.1 zk = zh.2.1 zk := fun zk a1 a2 => (g71 zk a1 a2).trans ((e1 zk (by omega)).trans (hf.2.2.2.1 zk (by omega) (by omega) (by omega)))
  have rl : h2.2.2.1 = zh.2.2.1 := by rw [g2]; exact hf.2.1
  have rr : ∀ za zb, ¬ (za = 19 ∧ zb = 1) → h2.2.2.2 za zb = zh.2.2.2 za zb := fun za zb z => by rw [g2]; exact hf.2.2.1 za zb z
  have zc := tx_com hi (h2 := h2) (fun zk a1 a2 a3 a4 => r0 zk a1 (by omega) (by omega) (by omega) (by omega)) (fun zk a1 a2 => r0 zk (by omega) (by omega) (by omega) (by omega) a2) (fun zj a1 a2 a3 a4 a5 a6 => (g4 zj a1 a2 a3 a4 a5 a6).trans (r6 zj)) (fun zk _ => by rw [rl]) ((congrFun (g3 1 (by omega) (by omega)) 1).trans rfl) g5 (by rw [g6, g3 19 (by omega) (by omega), e1 19 (by omega), h3])
  obtain ⟨zt, zO, zE, zY, zQ, zK⟩ := hi.2.2.1
  have l1 : LsS zh h2 := ⟨g72.trans (r6 14), g73.trans (r6 16), g74.trans (r6 17), r7⟩
  refine ⟨?_, zc.1, ⟨zt, zO, ENz_c l1 zE, ?_, ⟨?_, ?_, ?_, ?_⟩, ?_⟩, zc.2.1, zc.2.2.1, zc.2.2.2.1, zc.2.2.2.2⟩
  · unfold WF at hw ⊢
    rw [g1, g2]
    exact hw
  · unfold STw
    rw [rr 0 1 (by omega), rr 0 2 (by omega)]
    rcases zY with ⟨y1, y2, y3⟩ | ⟨y1, y2, y3⟩
    · have e : zq = 11 := by rw [ho] at y3; exact Option.some.inj y3
      subst e
      exact Or.inl ⟨STz_c (fun zk a1 a2 => r0 zk (by omega) (by omega) (by omega) (by omega) (by omega)) y1, y2, y3⟩
    · have e : zq = 3 := by rw [ho] at y3; exact Option.some.inj y3
      subst e
      exact Or.inr ⟨STz_c (fun zk a1 a2 => r0 zk (by omega) (by omega) (by omega) (by omega) (by omega)) y1, y2, y3⟩
  · rw [r0 20 (by omega) (by omega) (by omega) (by omega) (by omega)]
    exact zQ.1
  · rw [r0 21 (by omega) (by omega) (by omega) (by omega) (by omega), r7 55 (by omega) (by omega)]
    exact zQ.2.1
  · rw [r0 22 (by omega) (by omega) (by omega) (by omega) (by omega), r7 55 (by omega) (by omega)]
    exact zQ.2.2.1
  · exact CWz_c (by rw [r0 20 (by omega) (by omega) (by omega) (by omega) (by omega)]) (r0 22 (by omega) (by omega) (by omega) (by omega) (by omega)) (r0 23 (by omega) (by omega) (by omega) (by omega) (by omega)) (r0 24 (by omega) (by omega) (by omega) (by omega) (by omega)) zQ.2.2.2
  · unfold BKz SHz at zK ⊢
    rw [r0 30 (by omega) (by omega) (by omega) (by omega) (by omega), rl]
    exact zK
theorem tx_good {zn zq zo : Nat} {zh zg h2 : AH} {zr : (Nat × Nat) × Nat × PSt} {zx : Int32} (hi : InV zn zh) (hq : (zq = 3 ∧ zo = 11) ∨ (zq = 11 ∧ zo = 3)) (hf : FrR zq zh zg) (hw : WF zg) (h0 : zr.1.1 = 0) (h3 : zg.2.1 19 3 = 0) (hS : SDz zr.2.2 zq zg) (hX : TXz zr (blH (lsH (swH (eT zg) zq zo) zr.2.2) zr.2.2) h2 zx) : InV (zn + 1) h2 := by
  obtain ⟨-, g1, g2, g3, g4, g5, g6, -, g8⟩ := hX
  obtain ⟨zO, zE⟩ := g8 h0
  have e1 : ∀ zk, zk ≠ 1 → zk ≠ 20 → zk ≠ 21 → zk ≠ 22 → zk ≠ 30 → (blH (lsH (swH (eT zg) zq zo) zr.2.2) zr.2.2).2.1 zk = zg.2.1 zk := fun zk a1 a2 a3 a4 a5 => by
    show (sI (lsH (swH (eT zg) zq zo) zr.2.2) 30 _).2.1 zk = _
    rw [sI_ne _ _ a5]
    unfold lsH
    rw [sI_ne _ _ a2, sI_ne _ _ a4, sI_ne _ _ a3, sI_ne _ _ a2]
    exact sI_ne _ _ a1
  have r0 : ∀ zk, zk ≠ 1 → zk ≠ 19 → zk ≠ 20 → zk ≠ 21 → zk ≠ 22 → zk ≠ 30 → (zk < zq ∨ zq + 7 < zk) → zk ≠ 49 → (zk < 53 ∨ 65 < zk) → h2.2.1 zk = zh.2.1 zk := fun zk a1 a2 b1 b2 b3 b4 a3 a4 a5 => (g3 zk a4 a5).trans ((e1 zk a1 b1 b2 b3 b4).trans (hf.2.2.2.1 zk a1 a2 a3))
  have r6 : ∀ zj, (blH (lsH (swH (eT zg) zq zo) zr.2.2) zr.2.2).2.1 49 zj = zh.2.1 49 zj := fun zj => by
    rw [e1 49 (by omega) (by omega) (by omega) (by omega) (by omega), hf.2.2.2.1 49 (by omega) (by omega) (by omega)]
  have rl : ∀ zk, zk ≠ 31 → h2.2.2.1 zk = zh.2.2.1 zk := fun zk a1 => by
    rw [g2]
    refine (sL_ne _ _ a1).trans ((sL_ne _ _ a1).trans ?_)
    exact congrFun hf.2.1 zk
  have zc := tx_com hi (h2 := h2) (fun zk a1 a2 a3 a4 => r0 zk a1 (by omega) (by omega) (by omega) (by omega) a3 (by omega) (by omega) (by omega)) (fun zk a1 a2 => r0 zk (by omega) (by omega) (by omega) (by omega) (by omega) (by omega) (by omega) (by omega) a2) (fun zj a1 a2 a3 a4 a5 a6 => (g4 zj a1 a2 a3 a4 a5 a6).trans (r6 zj)) rl ((congrFun (g3 1 (by omega) (by omega)) 1).trans rfl) g5 (by rw [g6, h0, g3 19 (by omega) (by omega), e1 19 (by omega) (by omega) (by omega) (by omega) (by omega), h3]; rfl)
  have e20 : h2.2.1 20 = (lsH (swH (eT zg) zq zo) zr.2.2).2.1 20 := (g3 20 (by omega) (by omega)).trans (bl_r (by omega))
  have e21 : h2.2.1 21 = (lsH (swH (eT zg) zq zo) zr.2.2).2.1 21 := (g3 21 (by omega) (by omega)).trans (bl_r (by omega))
  have e22 : h2.2.1 22 = (lsH (swH (eT zg) zq zo) zr.2.2).2.1 22 := (g3 22 (by omega) (by omega)).trans (bl_r (by omega))
  have e30 : h2.2.1 30 = (blH (lsH (swH (eT zg) zq zo) zr.2.2) zr.2.2).2.1 30 := g3 30 (by omega) (by omega)
  have hst : STz zr.2.2 zq h2 := STz_c (fun zk a1 a2 => (g3 zk (by omega) (by omega)).trans (e1 zk (by omega) (by omega) (by omega) (by omega) (by omega))) hS.1
  have hlt : ∀ zk, zk < zr.2.2.1 1 → nI (zr.2.2.2 2 zk ||| zr.2.2.2 3 zk) = h2.2.1 55 zk := fun zk hk => ((zE.2.2.2.1 zk hk).2.2).symm
  refine ⟨?_, zc.1, ⟨zr.2.2, zO, zE, ?_, ⟨?_, ?_, ?_, ?_⟩, ?_⟩, zc.2.1, zc.2.2.1, zc.2.2.2.1, zc.2.2.2.2⟩
  · have hw2 : WF (blH (lsH (swH (eT zg) zq zo) zr.2.2) zr.2.2) := sw_w (h := eT zg) hw
    unfold WF at hw2 ⊢
    rw [g1, g2]
    exact hw2
  · unfold STw
    rw [g2]
    rcases hq with ⟨rfl, rfl⟩ | ⟨rfl, rfl⟩
    · exact Or.inl ⟨hst, rfl, rfl⟩
    · exact Or.inr ⟨hst, rfl, rfl⟩
  · rw [e20]
    rfl
  · intro zk hk
    rw [e21, ← hlt zk hk]
    show lb1 _ _ (zr.2.2.1 1) zk = _
    rw [lb1_eq, if_pos hk]
  · intro zk hk
    rw [e22]
    exact bef_cong hlt zk hk
  · intro z
    exfalso
    apply z
    rw [e20]
    rfl
  · have hb := bl_sh (lsH (swH (eT zg) zq zo) zr.2.2) zr.2.2 zO.2.1
    refine ⟨by rw [e30]; rfl, ?_⟩
    unfold SHz at hb ⊢
    rw [g2]
    exact hb
theorem st_text (E : ME) (hE : XOK E) {zn : Nat} {zh : AH} (hi : InV zn zh) : StI E zn mX10_text mX11_text 7 4 [] zh := by
  obtain ⟨zw, ⟨zb, zl, t1, t2⟩, ⟨zt, zO, zE, zY, zQ, zK⟩, zF, zB, zH, zX⟩ := id hi
  rcases zY with ⟨y1, y2, y3⟩ | ⟨y1, y2, y3⟩
  · have c1 := cn_X10_text_11 E zh zb zl zw t1 hE y2 y3
    refine ⟨_, c1, fun zv h1 z1 => ?_⟩
    obtain ⟨zx, x1, x2, x3, x4⟩ := z1
    refine ⟨zx, x1, ?_⟩
    by_cases z0 : (txtP zb zl).1.1 = 0
    · obtain ⟨x5, zg, f1, f2, f3, rfl⟩ := x4 z0
      have fr := FrR_D (bg_fr_11 zh) f1
      have hwg : WF zg := FrD_w f1 (bg_w_11 zw)
      have e1 : ∀ zk, zk ≠ 1 → zk ≠ 20 → zk ≠ 21 → zk ≠ 22 → zk ≠ 30 → (blH (lsH (swH (eT zg) 11 3) (txtP zb zl).2.2) (txtP zb zl).2.2).2.1 zk = zg.2.1 zk := fun zk a1 a2 a3 a4 a5 => by
        show (sI (lsH (swH (eT zg) 11 3) (txtP zb zl).2.2) 30 _).2.1 zk = _
        rw [sI_ne _ _ a5]
        unfold lsH
        rw [sI_ne _ _ a2, sI_ne _ _ a4, sI_ne _ _ a3, sI_ne _ _ a2]
        exact sI_ne _ _ a1
      have e2 : ∀ zk, 49 ≤ zk → (blH (lsH (swH (eT zg) 11 3) (txtP zb zl).2.2) (txtP zb zl).2.2).2.1 zk = zh.2.1 zk := fun zk a1 => (e1 zk (by omega) (by omega) (by omega) (by omega) (by omega)).trans (fr.2.2.2.1 zk (by omega) (by omega) (by omega))
      have c2 := cn_X11_text E (blH (lsH (swH (eT zg) 11 3) (txtP zb zl).2.2) (txtP zb zl).2.2) zb zl (sw_w (h := eT zg) hwg) (by unfold TMz at t2 ⊢; rw [e2 49 (by omega), e2 50 (by omega)]; exact t2) (by unfold KTz; rw [e2 51 (by omega), e2 52 (by omega)]; exact zX.2.2)
      refine ⟨_, sw_w (h := eT zg) hwg, c2, fun zu h2 z2 => ?_⟩
      obtain ⟨zy, w1, w2⟩ := z2
      exact ⟨by rw [w1, w2.1, x2], tx_good hi (Or.inr ⟨rfl, rfl⟩) fr hwg z0 f2 f3 w2⟩
    · obtain ⟨zg, f1, f2, rfl⟩ := x3 z0
      have fr := FrR_D (bg_fr_11 zh) f1
      have hwg : WF zg := FrD_w f1 (bg_w_11 zw)
      have e2 : ∀ zk, 49 ≤ zk → (eT zg).2.1 zk = zh.2.1 zk := fun zk a1 => (sI_ne _ _ (by omega)).trans (fr.2.2.2.1 zk (by omega) (by omega) (by omega))
      have c2 := cn_X11_text E (eT zg) zb zl hwg (by unfold TMz at t2 ⊢; rw [e2 49 (by omega), e2 50 (by omega)]; exact t2) (by unfold KTz; rw [e2 51 (by omega), e2 52 (by omega)]; exact zX.2.2)
      refine ⟨_, hwg, c2, fun zu h2 z2 => ?_⟩
      obtain ⟨zy, w1, w2⟩ := z2
      exact ⟨by rw [w1, w2.1, x2], tx_bad hi (Or.inr rfl) y3 fr hwg z0 f2 w2⟩
  · have c1 := cn_X10_text_3 E zh zb zl zw t1 hE y2 y3
    refine ⟨_, c1, fun zv h1 z1 => ?_⟩
    obtain ⟨zx, x1, x2, x3, x4⟩ := z1
    refine ⟨zx, x1, ?_⟩
    by_cases z0 : (txtP zb zl).1.1 = 0
    · obtain ⟨x5, zg, f1, f2, f3, rfl⟩ := x4 z0
      have fr := FrR_D (bg_fr_3 zh) f1
      have hwg : WF zg := FrD_w f1 (bg_w_3 zw)
      have e1 : ∀ zk, zk ≠ 1 → zk ≠ 20 → zk ≠ 21 → zk ≠ 22 → zk ≠ 30 → (blH (lsH (swH (eT zg) 3 11) (txtP zb zl).2.2) (txtP zb zl).2.2).2.1 zk = zg.2.1 zk := fun zk a1 a2 a3 a4 a5 => by
        show (sI (lsH (swH (eT zg) 3 11) (txtP zb zl).2.2) 30 _).2.1 zk = _
        rw [sI_ne _ _ a5]
        unfold lsH
        rw [sI_ne _ _ a2, sI_ne _ _ a4, sI_ne _ _ a3, sI_ne _ _ a2]
        exact sI_ne _ _ a1
      have e2 : ∀ zk, 49 ≤ zk → (blH (lsH (swH (eT zg) 3 11) (txtP zb zl).2.2) (txtP zb zl).2.2).2.1 zk = zh.2.1 zk := fun zk a1 => (e1 zk (by omega) (by omega) (by omega) (by omega) (by omega)).trans (fr.2.2.2.1 zk (by omega) (by omega) (by omega))
      have c2 := cn_X11_text E (blH (lsH (swH (eT zg) 3 11) (txtP zb zl).2.2) (txtP zb zl).2.2) zb zl (sw_w (h := eT zg) hwg) (by unfold TMz at t2 ⊢; rw [e2 49 (by omega), e2 50 (by omega)]; exact t2) (by unfold KTz; rw [e2 51 (by omega), e2 52 (by omega)]; exact zX.2.2)
      refine ⟨_, sw_w (h := eT zg) hwg, c2, fun zu h2 z2 => ?_⟩
      obtain ⟨zy, w1, w2⟩ := z2
      exact ⟨by rw [w1, w2.1, x2], tx_good hi (Or.inl ⟨rfl, rfl⟩) fr hwg z0 f2 f3 w2⟩
    · obtain ⟨zg, f1, f2, rfl⟩ := x3 z0
      have fr := FrR_D (bg_fr_3 zh) f1
      have hwg : WF zg := FrD_w f1 (bg_w_3 zw)
      have e2 : ∀ zk, 49 ≤ zk → (eT zg).2.1 zk = zh.2.1 zk := fun zk a1 => (sI_ne _ _ (by omega)).trans (fr.2.2.2.1 zk (by omega) (by omega) (by omega))
      have c2 := cn_X11_text E (eT zg) zb zl hwg (by unfold TMz at t2 ⊢; rw [e2 49 (by omega), e2 50 (by omega)]; exact t2) (by unfold KTz; rw [e2 51 (by omega), e2 52 (by omega)]; exact zX.2.2)
      refine ⟨_, hwg, c2, fun zu h2 z2 => ?_⟩
      obtain ⟨zy, w1, w2⟩ := z2
      exact ⟨by rw [w1, w2.1, x2], tx_bad hi (Or.inl rfl) y3 fr hwg z0 f2 w2⟩
