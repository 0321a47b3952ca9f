theorem lb1_eq (lt bf : Nat → Int32) : ∀ zk zj, lb1 lt bf zk zj = if zj < zk then lt zj else bf zj
  | 0, zj => by rw [if_neg (Nat.not_lt_zero zj)]; rfl
  | zk + 1, zj => by
    rw [lb1, upd, lb1_eq lt bf zk zj]
    by_cases h : zj = zk
    · rw [if_pos h, if_pos (by omega), h]
    · rw [if_neg h]
      by_cases h2 : zj < zk
      · rw [if_pos h2, if_pos (by omega)]
      · rw [if_neg h2, if_neg (by omega)]
def lbR (zk : Nat) (zf : Nat → Int32) (zj : Nat) : Int32 := zf zj ||| (if (zf zj >>> (nI zk &&& 31)) &&& 1 = 1 then zf zk else 0)
theorem or_self32 (zx : Int32) : zx ||| zx = zx := b_ext (fun zi _ => by rw [b_or, Bool.or_self])
theorem or_zero32 (zx : Int32) : zx ||| 0 = zx := b_ext (fun zi _ => by rw [b_or, b_0, Bool.or_false])
theorem lbR_k (zk : Nat) (zf : Nat → Int32) : lbR zk zf zk = zf zk := by
  unfold lbR
  split
  · exact or_self32 _
  · exact or_zero32 _
theorem lbT_eq (zk : Nat) (zf : Nat → Int32) : ∀ zt zj, lbT zk zf zt zj = if zj < zt then lbR zk zf zj else zf zj
  | 0, zj => by rw [if_neg (Nat.not_lt_zero zj)]; rfl
  | zt + 1, zj => by
    have hk : lbT zk zf zt zk = zf zk := by
      rw [lbT_eq zk zf zt zk]
      split
      · exact lbR_k zk zf
      · rfl
    have ht : lbT zk zf zt zt = zf zt := by
      rw [lbT_eq zk zf zt zt, if_neg (Nat.lt_irrefl zt)]
    rw [lbT, upd, hk, ht, lbT_eq zk zf zt zj]
    by_cases h : zj = zt
    · subst h
      rw [if_pos rfl, if_pos (Nat.lt_succ_self _)]
      rfl
    · rw [if_neg h]
      by_cases h2 : zj < zt
      · rw [if_pos h2, if_pos (by omega)]
      · rw [if_neg h2, if_neg (by omega)]
def TRz (zf : Nat → Int32) (zm zk : Nat) : Prop := ∀ zt zj zu, zt < zm → zj < zk → zu < 32 → bt (zf zt) zj = true → bt (zf zj) zu = true → bt (zf zt) zu = true
def BBz (zf : Nat → Int32) (zm : Nat) : Prop := ∀ zt zj, zt < zm → zj < 32 → bt (zf zt) zj = true → zj < zm
theorem lbR_bt {zk : Nat} (hk : zk < 32) (zf : Nat → Int32) (zj zu : Nat) : bt (lbR zk zf zj) zu = (bt (zf zj) zu || (bt (zf zj) zk && bt (zf zk) zu)) := by
  unfold lbR
  rw [b_or]
  cases hb : bt (zf zj) zk
  · rw [if_neg (by rw [sh1_1 _ hk, hb]; decide), b_0]; rfl
  · rw [if_pos ((sh1_1 _ hk).mpr hb)]; rfl
theorem lbT_TR {zf : Nat → Int32} {zm zk : Nat} (hm : zm ≤ 12) (hk : zk < zm) (h : TRz zf zm zk) : TRz (lbT zk zf zm) zm (zk + 1) := by
  intro zt zj zu ht hj hu
  rw [lbT_eq, if_pos ht, lbT_eq, if_pos (show zj < zm by omega), lbR_bt (by omega), lbR_bt (by omega), lbR_bt (by omega)]
  intro h1 h2
  by_cases e : zj = zk
  · subst e
    have h3 : bt (zf zt) zj = true := by
      cases hb : bt (zf zt) zj
      · rw [hb] at h1; simp at h1
      · rfl
    have h4 : bt (zf zj) zu = true := by
      cases hb : bt (zf zj) zu
      · rw [hb] at h2; simp at h2
      · rfl
    rw [h3, h4]; simp
  · have hj2 : zj < zk := by omega
    simp only [Bool.or_eq_true, Bool.and_eq_true] at h1 h2 ⊢
    rcases h1 with h1 | ⟨h1, h1b⟩
    · rcases h2 with h2 | ⟨h2, h2b⟩
      · exact Or.inl (h zt zj zu ht hj2 hu h1 h2)
      · exact Or.inr ⟨h zt zj zk ht hj2 (by omega) h1 h2, h2b⟩
    · rcases h2 with h2 | ⟨h2, h2b⟩
      · exact Or.inr ⟨h1, h zk zj zu hk hj2 hu h1b h2⟩
      · exact Or.inr ⟨h1, h2b⟩
theorem lbT_BB {zf : Nat → Int32} {zm zk : Nat} (hm : zm ≤ 12) (hk : zk < zm) (h : BBz zf zm) : BBz (lbT zk zf zm) zm := by
  intro zt zj ht hj
  rw [lbT_eq, if_pos ht, lbR_bt (by omega)]
  intro h1
  simp only [Bool.or_eq_true, Bool.and_eq_true] at h1
  rcases h1 with h1 | ⟨_, h1⟩
  · exact h zt zj ht hj h1
  · exact h zk zj hk hj h1
theorem lbK_ok {zf : Nat → Int32} {zm : Nat} (hm : zm ≤ 12) (h : BBz zf zm) : ∀ zk, zk ≤ zm → TRz (lbK zm zf zk) zm zk ∧ BBz (lbK zm zf zk) zm
  | 0, _ => ⟨fun _ zj _ _ hj => absurd hj (Nat.not_lt_zero zj), h⟩
  | zk + 1, hk => by
    have ih := lbK_ok hm h zk (by omega)
    rw [lbK]
    exact ⟨lbT_TR hm (by omega) ih.1, lbT_BB hm (by omega) ih.2⟩
theorem bef_ok {lt bf : Nat → Int32} {zm : Nat} (hm : zm ≤ 12) (h : BBz lt zm) : TRz (befF zm lt bf) zm zm ∧ BBz (befF zm lt bf) zm := by
  refine lbK_ok hm (fun zt zj ht hj hb => ?_) zm (Nat.le_refl _)
  rw [lb1_eq, if_pos ht] at hb
  exact h zt zj ht hj hb
theorem rg_bt (bf : Nat → Int32) : ∀ zn, zn ≤ 32 → ∀ zi, zi < 32 → bt (rgF bf zn) zi = (decide (zi < zn) && bt (bf zi) zi)
  | 0, _, zi, _ => by rw [rgF, b_0, decide_eq_false (Nat.not_lt_zero zi)]; rfl
  | zn + 1, hn, zi, hi => by
    rw [rgF, b_or, rg_bt bf zn (by omega) zi hi, b_and, bt_sh (by omega) zi hi]
    by_cases h : zi = zn
    · subst h; simp
    · rw [decide_eq_false h, Bool.and_false, Bool.or_false]
      congr 1
      exact decide_eq_decide.mpr (by omega)
theorem rg_0 {bf : Nat → Int32} {zm : Nat} (hm : zm ≤ 12) (h : rgF bf zm = 0) : ∀ zt, zt < zm → bt (bf zt) zt = false := by
  intro zt ht
  have e := rg_bt bf zm (by omega) zt (by omega)
  rw [h, b_0, decide_eq_true ht, Bool.true_and] at e
  exact e.symm
theorem nI_m4 : ∀ zt, zt < 12 → ¬ nI zt = -4 := by decide
theorem fop_iff {bf : Nat → Int32} {zs zt : Nat} (ht : zt < 12) : fopB bf 0 (-4) zs zt = true ↔ zs.testBit zt = false ∧ ∀ zj, zj < 32 → bt (bf zt) zj = true → zs.testBit zj = true := by
  unfold fopB
  rw [decide_eq_true_iff, if_neg (nI_m4 zt ht), or_zero32, sh1_0 _ (by omega), bt_nI (by omega), sub_iff]
theorem ex_fop {bf : Nat → Int32} {zm : Nat} (hm : zm ≤ 12) (hT : TRz bf zm zm) (hB : BBz bf zm) (hI : ∀ zt, zt < zm → bt (bf zt) zt = false) (zs : Nat) : ∀ zn zt, zt < zm → zs.testBit zt = false → fb_ct (bt (bf zt)) zm ≤ zn → ∃ zq, zq < zm ∧ fopB bf 0 (-4) zs zq = true := by
  intro zn
  induction zn with
  | zero =>
    intro zt ht h1 h2
    refine ⟨zt, ht, (fop_iff (by omega)).mpr ⟨h1, fun zj hj hb => ?_⟩⟩
    have := fb_ct_zero.mp (Nat.le_zero.mp h2) zj (hB zt zj ht hj hb)
    rw [hb] at this
    cases this
  | succ zn ih =>
    intro zt ht h1 h2
    by_cases hx : ∃ zj, zj < zm ∧ (bt (bf zt) zj = true ∧ zs.testBit zj = false)
    · obtain ⟨zj, hj, hb, hs⟩ := hx
      refine ih zj hj hs ?_
      have e := fb_ct_upd (bt (bf zt)) false hj
      rw [hb] at e
      have e2 : fb_ct (bt (bf zj)) zm ≤ fb_ct (fun zk => if zk = zj then false else bt (bf zt) zk) zm := by
        refine fb_ct_sub (fun zk hk hb2 => ?_)
        by_cases hz : zk = zj
        · subst hz; rw [hI zk hk] at hb2; cases hb2
        · rw [if_neg hz]
          exact hT zt zj zk ht hj (by omega) hb hb2
      have e3 : fb_ct (fun zk => if zk = zj then false else bt (bf zt) zk) zm + 1 = fb_ct (bt (bf zt)) zm + 0 := e
      omega
    · refine ⟨zt, ht, (fop_iff (by omega)).mpr ⟨h1, fun zj hj hb => ?_⟩⟩
      cases hs : zs.testBit zj
      · exact absurd ⟨zj, hB zt zj ht hj hb, hb, hs⟩ hx
      · rfl
theorem ex_miss {zm zs : Nat} (h : zs < 2 ^ zm - 1) : ∃ zt, zt < zm ∧ zs.testBit zt = false := by
  rcases Classical.em (∃ zt, zt < zm ∧ zs.testBit zt = false) with z | z
  · exact z
  · exfalso
    have e : zs = 2 ^ zm - 1 := by
      apply Nat.eq_of_testBit_eq
      intro zi
      rw [Nat.testBit_two_pow_sub_one]
      rcases Nat.lt_or_ge zi zm with z2 | z2
      · rw [decide_eq_true z2]
        cases hb : zs.testBit zi
        · exact absurd ⟨zi, z2, hb⟩ z
        · rfl
      · rw [decide_eq_false (by omega)]
        exact Nat.testBit_lt_two_pow (Nat.lt_of_lt_of_le (show zs < 2 ^ zm by omega) (Nat.pow_le_pow_right (by decide) z2))
    omega
/-- no ring: what may follow is there as long as one is wanting -/
theorem bef_ex {lt bf : Nat → Int32} {zm : Nat} (hm : zm ≤ 12) (hB : BBz lt zm) (hR : rgF (befF zm lt bf) zm = 0) {zs : Nat} (hs : zs < 2 ^ zm - 1) : ∃ zt, zt < zm ∧ fopB (befF zm lt bf) 0 (-4) zs zt = true := by
  obtain ⟨zt, ht, hb⟩ := ex_miss hs
  exact ex_fop hm (bef_ok hm hB).1 (bef_ok hm hB).2 (rg_0 hm hR) zs _ zt ht hb (Nat.le_refl _)
/-- the number of ways, by the model -/
def wO (zm : Nat) (lt bf : Nat → Int32) (zs : Nat) : Nat := wW (fopB (befF zm lt bf) 0 (-4)) zm zs
theorem wO_pos {lt bf : Nat → Int32} {zm : Nat} (hm : zm ≤ 12) (hB : BBz lt zm) (hR : rgF (befF zm lt bf) zm = 0) {zs : Nat} (hs : zs < 2 ^ zm) : 1 ≤ wO zm lt bf zs :=
  wW_pos (fop_ok _ _ _ hm) (fun _ h => bef_ex hm hB hR h) _ zs hs (Nat.le_refl _)
theorem wO_le {lt bf : Nat → Int32} {zm : Nat} (hm : zm ≤ 12) {zs : Nat} (hs : zs < 2 ^ zm) : wO zm lt bf zs ≤ 479001600 := wW_12 (fop_ok _ _ _ hm) hm hs
