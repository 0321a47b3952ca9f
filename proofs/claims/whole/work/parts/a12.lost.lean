theorem lo_ct (zf zv : Nat → Int32) (zw : Int32) (zq : Nat → Bool) : ∀ zn, (∀ zk, zk < zn → (zq zk = true ↔ (zf zk = -1 ∧ (if zw = 0 then 0 ≤ zv zk else if zw = 1 then zv zk = -2 else zv zk = -4)))) → loF zf zv zw zn = nI (fb_ct zq zn)
  | 0, _ => by rw [loF]; rfl
  | zn + 1, h => by
    rw [loF, lo_ct zf zv zw zq zn (fun zk hk => h zk (by omega)), fb_ct_succ]
    by_cases z : zq zn = true
    · rw [if_pos ((h zn (by omega)).mp z), if_pos z]
      exact nI_add _ 1
    · rw [if_neg (fun y => z ((h zn (by omega)).mpr y)), if_neg z]
      exact nI_add _ 0
theorem lb_lost {zf : Nat → Int32} {zx : Int64} {zh : AH} (hF : FLz zf zx zh) {zj : Nat} (hj : zj < 64) : lbt (zh.2.2.1 25 4 ^^^ (-1)) zj = decide (zf zj = -1) := by
  rw [lb_xor, lb_m1 zj hj, hF.2.2.2.1 zj hj]
  simp
theorem st_lost (E : ME) {zn : Nat} {zh : AH} (hi : InV zn zh) (zv : Int32) : StI E zn mX10_lost mX11_lost 6 5 [.int zv] zh := by
  obtain ⟨yw, zT, ⟨zt, zO, zE, zY, zQ, zK⟩, zF, zB, zH, zX⟩ := id hi
  have c1 := cn_X10_lost E zh zv (bkc zt) (zt.1 2) _ _ yw zK.1 zO.2.1 zK.2 zF.1 zF.2.2.2.2.1
  by_cases zC : 0 ≤ zv ∧ zv ≤ 2
  · refine ⟨_, c1, fun zx h1 z1 => ?_⟩
    obtain ⟨zr, z2, z3, rfl⟩ := z1.1 zC
    have c2 := cn_X11_lost E (sL zh 33 zr) zv (zt.1 2) yw zE.2.1 zO.2.1
    rw [if_pos zC] at c2
    have zE1 : ENz zt (sL zh 33 zr) := zE
    have x1 : ∀ zj, zj < 64 → _ := fun zj hj => VW_bits z2 hj (suW_word zO zE1 zF.1.2.1 zj hj)
    refine ⟨_, z3, _, yw, c2, fun zw h2 z4 => ⟨?_, Ms_i (Ms_lwX z4.2) (InV_33 zr hi)⟩⟩
    rw [z4.1]
    congr 2
    rcases v_2.mp zC with rfl | rfl | rfl
    · rw [if_pos rfl, bcL_bt]
      refine lo_ct _ _ _ _ 64 (fun zj hj => ?_)
      rw [if_pos rfl, lb_and, lb_lost zF.1 hj, lb_and, lb_xor, lb_xor, lb_xor, lb_m1 zj hj, (x1 zj hj).2.2]
      show _ ↔ zh.2.1 69 zj = -1 ∧ _
      cases lbt (onL zr 6) zj <;> cases lbt (unL zr 6) zj <;> simp
    · rw [if_neg (by decide), if_pos rfl, bcL_bt]
      refine lo_ct _ _ _ _ 64 (fun zj hj => ?_)
      rw [if_neg (by decide), if_pos rfl, lb_and, lb_lost zF.1 hj, (x1 zj hj).2.1]
      show _ ↔ zh.2.1 69 zj = -1 ∧ _
      cases lbt (unL zr 6) zj <;> simp
    · rw [if_neg (by decide), if_neg (by decide), bcL_bt]
      refine lo_ct _ _ _ _ 64 (fun zj hj => ?_)
      rw [if_neg (by decide), if_neg (by decide), lb_and, lb_lost zF.1 hj, lb_xor, lb_m1 zj hj, (x1 zj hj).1]
      show _ ↔ zh.2.1 69 zj = -1 ∧ _
      cases lbt (onL zr 6) zj <;> simp
  · refine ⟨_, c1, fun zx h1 z1 => ?_⟩
    obtain ⟨z2, rfl⟩ := z1.2 zC
    have c2 := cn_X11_lost E h1 zv (zt.1 2) yw zE.2.1 zO.2.1
    rw [if_neg zC] at c2
    exact ⟨_, z2, _, yw, c2, fun zw h2 z4 => ⟨z4.1, Ms_i (Ms_lwX z4.2) hi⟩⟩
theorem fk_bt (zf zv : Nat → Int32) : ∀ zn, zn ≤ 64 → ∀ zj, zj < 64 → lbt (fkF zf zv zn) zj = (decide (zj < zn) && decide (zf zj = -1 ∧ 0 ≤ zv zj))
  | 0, _, zj, hj => by
    rw [fkF, lb_0, decide_eq_false (Nat.not_lt_zero _), Bool.false_and]
  | zn + 1, hn, zj, hj => by
    rw [fkF]
    by_cases z : zf zn = -1 ∧ 0 ≤ zv zn
    · rw [if_pos z, lb_set (by omega) hj, fk_bt zf zv zn (by omega) zj hj]
      by_cases y : zj = zn
      · subst y
        rw [decide_eq_true z, decide_eq_true (show zj < zj + 1 by omega)]
        simp
      · rw [decide_eq_false y, Bool.or_false]
        by_cases q : zj < zn
        · rw [decide_eq_true q, decide_eq_true (show zj < zn + 1 by omega)]
        · rw [decide_eq_false q, decide_eq_false (show ¬ zj < zn + 1 by omega)]
    · rw [if_neg z, fk_bt zf zv zn (by omega) zj hj]
      by_cases y : zj = zn
      · subst y
        rw [decide_eq_false z, Bool.and_false, Bool.and_false]
      · by_cases q : zj < zn
        · rw [decide_eq_true q, decide_eq_true (show zj < zn + 1 by omega)]
        · rw [decide_eq_false q, decide_eq_false (show ¬ zj < zn + 1 by omega)]
theorem ff_at (zx : Int64) (zv zf : Nat → Int32) : ∀ zn, zn ≤ 64 → ∀ zj, ffF zx zv zf zn zj = if zj < zn ∧ lbt zx zj = true then zv zj else zf zj
  | 0, _, zj => by rw [ffF, if_neg (by omega)]
  | zn + 1, hn, zj => by
    rw [ffF]
    unfold upd
    by_cases y : zj = zn
    · subst y
      rw [if_pos rfl, ff_at zx zv zf zj (by omega) zj, if_neg (by omega : ¬ (zj < zj ∧ lbt zx zj = true))]
      by_cases z : lbt zx zj = true
      · rw [if_pos ((lb_shr1 zx (by omega)).mpr z), if_pos ⟨by omega, z⟩]
      · rw [if_neg (fun q => z ((lb_shr1 zx (by omega)).mp q)), if_neg (fun q => z q.2)]
    · rw [if_neg y, ff_at zx zv zf zn (by omega) zj]
      by_cases q : zj < zn ∧ lbt zx zj = true
      · rw [if_pos q, if_pos ⟨by omega, q.2⟩]
      · rw [if_neg q, if_neg (fun p => q ⟨by omega, p.2⟩)]
theorem fn_ct (zf zv : Nat → Int32) : ∀ zn, fnF zf zv zn = nI (fb_ct (fun zk => decide (zf zk = -1 ∧ 0 ≤ zv zk)) zn)
  | 0 => by rw [fnF]; rfl
  | zn + 1 => by
    rw [fnF, fn_ct zf zv zn, fb_ct_succ]
    by_cases z : zf zn = -1 ∧ 0 ≤ zv zn
    · rw [if_pos z, if_pos (decide_eq_true z)]
      exact nI_add _ 1
    · rw [if_neg z, if_neg (by rw [decide_eq_false z]; decide)]
      rfl
theorem st_fill (E : ME) {zn : Nat} {zh : AH} (hi : InV zn zh) (hn : zn ≤ 512) : StI E zn mX10_fill mX11_fill 6 5 [] zh := by
  obtain ⟨yw, zT, ⟨zt, zO, zE, zY, zQ, zK⟩, zF, zB, zH, zX⟩ := id hi
  have c1 := cn_X10_fill E zh (bkc zt) (zt.1 2) _ _ yw zK.1 zO.2.1 zK.2 zF.1 zF.2.2.2.2.1
  refine ⟨_, c1, fun zx h1 z1 => ?_⟩
  obtain ⟨zr, z2, z3, x3, x41, x42, x43, x44, x45, x5, zq, q1, q2, q3⟩ := z1
  have e69 : h1.2.1 69 = zh.2.1 69 := x43 69 (by omega) (by omega)
  have e49 : h1.2.1 49 = zh.2.1 49 := x43 49 (by omega) (by omega)
  have l49 : h1.2.2.1 49 = zh.2.2.1 49 := x44 49 (by omega) (by omega) (by omega)
  have zw1 : WF h1 := by unfold WF at yw ⊢; rw [x41, x42]; exact yw
  have zE1 : ENz zt h1 := ENz_c ⟨by rw [e49], by rw [e49], by rw [e49], fun zk _ _ => x43 zk (by omega) (by omega)⟩ zE
  have hc : COz (h1.2.1 69) := by rw [e69]; exact zF.1.2.1
  have w1 := suW_word zO zE1 hc
  rw [e69] at w1
  have b1 : ∀ zj, zj < 64 → _ := fun zj hj => VW_bits z2 hj (w1 zj hj)
  have v1 : ∀ zj, zj < 64 → vdN (fun zk => lbt (zr zk) zj) 6 = suW h1 (zt.1 2) zj := fun zj hj => VW_u (SD_word z2 hj) (w1 zj hj)
  have c2 := cn_X11_fill E h1 (zt.1 2) zw1 zE1.2.1 zO.2.1
  have sb : ∀ zj, zj < 64 → lbt ((zh.2.2.1 25 4 ^^^ (-1)) &&& (((onL zr 6 ^^^ (-1)) ^^^ (-1)) &&& ((unL zr 6) ^^^ (-1)))) zj = decide (zh.2.1 69 zj = -1 ∧ 0 ≤ suW h1 (zt.1 2) zj) := by
    intro zj hj
    rw [lb_and, lb_lost zF.1 hj, lb_and, lb_xor, lb_xor, lb_xor, lb_m1 zj hj]
    have y := (b1 zj hj).2.2
    by_cases z : 0 ≤ suW h1 (zt.1 2) zj
    · obtain ⟨y1, y2⟩ := y.mp z
      rw [y1, y2]
      simp [z]
    · have y3 : ¬ (lbt (onL zr 6) zj = true ∧ lbt (unL zr 6) zj = false) := fun q => z (y.mpr q)
      revert y3
      cases lbt (onL zr 6) zj <;> cases lbt (unL zr 6) zj <;> simp [z]
  have eK : flK h1 (zt.1 2) = (zh.2.2.1 25 4 ^^^ (-1)) &&& (((onL zr 6 ^^^ (-1)) ^^^ (-1)) &&& ((unL zr 6) ^^^ (-1))) := by
    apply lb_ext
    intro zj hj
    unfold flK
    rw [fk_bt _ _ 64 (Nat.le_refl _) zj hj, decide_eq_true hj, Bool.true_and, e69, sb zj hj]
  have eF : ∀ zj, zj < 64 → flF h1 (zt.1 2) zj = fiG (zh.2.1 69) ((zh.2.2.1 25 4 ^^^ (-1)) &&& (((onL zr 6 ^^^ (-1)) ^^^ (-1)) &&& ((unL zr 6) ^^^ (-1)))) (fun zj => vdN (fun zk => lbt (zr zk) zj) 6) 64 zj := by
    intro zj hj
    unfold flF fiG
    rw [ff_at _ _ _ 64 (Nat.le_refl _) zj, eK, e69]
    by_cases z : lbt ((zh.2.2.1 25 4 ^^^ (-1)) &&& (((onL zr 6 ^^^ (-1)) ^^^ (-1)) &&& ((unL zr 6) ^^^ (-1)))) zj = true
    · rw [if_pos ⟨hj, z⟩, if_pos ⟨hj, hj, z⟩]
      exact (v1 zj hj).symm
    · rw [if_neg (fun q => z q.2), if_neg (fun q => z q.2.2)]
  refine ⟨_, z3, _, zw1, c2, fun zw h2 z4 => ⟨?_, ?_⟩⟩
  · rw [z4.1, fn_ct, bcL_bt, e69]
    congr 3
    exact fb_ct_cong (fun zk hk => (sb zk hk).symm)
  · obtain ⟨-, g1, zm, rfl⟩ := z4
    have zM := Ms_lwX zm
    have m49 : g1.2.2.1 49 = h1.2.2.1 49 := zM.2.2.2.2 49 (by omega)
    refine flo_i (h1 := h1) (zt := zh.2.1 0 11) (zq := zq) hi hn x41 x42 (fun zk a1 a2 a3 a4 => x43 zk a2 a3) (by rw [x43 0 (by omega) (by omega)]) (fun zk a1 a2 a3 => x44 zk a1 a2 a3) zM.1 zM.2.1 (fun zk a1 a2 a3 a4 a5 => ?_) (fun zj a1 a2 a3 a4 a5 => ?_) ?_ (fun zk a1 => ?_) ?_ (Or.inr x5) ?_ ?_ (by omega) q2 ?_
    · rw [sI_ne _ _ a2, sI_ne _ _ a1]
      obtain ⟨u1, u2, u3, uf, ug, rfl⟩ := zm
      show (sI (sI (lcH h1 u1 u2 u3) 70 uf) 71 ug).2.1 zk = _
      rw [sI_ne _ _ a4, sI_ne _ _ a3]
      exact sI_ne _ _ a1
    · rw [sI_ne _ _ (by omega), sI_at]
      exact (if_neg a1).trans (zM.2.2.2.1 zj a2 a3 a4)
    · rw [sI_ne _ _ (by omega), sI_at]
      refine ((if_neg (by omega)).trans (zM.2.2.2.1 48 (by omega) (by omega) (by omega))).trans ?_
      rw [e49]
      exact zX.1.symm
    · refine (sL_ne _ _ a1).trans ?_
      obtain ⟨u1, u2, u3, uf, ug, rfl⟩ := zm
      rfl
    · rw [sI_at]
      show FLz (flF h1 (zt.1 2)) (flK h1 (zt.1 2)) h1
      rw [eK]
      exact FLz_f (fun zj hj => (eF zj hj).symm) x3
    · rw [sI_ne _ _ (by omega), sI_at]
      exact (if_pos rfl).trans x5.symm
    · intro zj hj
      rw [sI_at]
      show lbt (flK h1 (zt.1 2)) zj = true → _
      rw [eK, eF zj hj]
      intro z
      unfold fiG
      rw [if_pos ⟨hj, hj, z⟩]
      rw [sb zj hj, decide_eq_true_eq] at z
      intro y
      have y2 : vdN (fun zk => lbt (zr zk) zj) 6 = -1 := y
      rw [v1 zj hj] at y2
      rw [y2] at z
      exact absurd z.2 (by decide)
    · intro z zj hj
      rw [sI_at, eF zj hj, q3 z]
