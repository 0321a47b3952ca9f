def hz0 : AH := (0, fun _ _ => 0, fun _ _ => 0, fun _ _ => none)
def hz9 : AH := iX11_49 (nwn 49 (iX10_0 (nwn 0 hz0)))
theorem imI_at (zf : Nat → Int32) {zw : Nat} (hw : zw < 8) {zc : Nat} (hc : zc < 64) : ∀ zn, zn ≤ 64 → imI zf zw zn (64 * zw + zc) = if imN zw zc < zn then nI (imN zw zc) else zf (64 * zw + zc)
  | 0, _ => by rw [imI, if_neg (Nat.not_lt_zero _)]
  | zn + 1, hn => by
    rw [imI]
    unfold upd
    have y1 := im_sr zw hw zc hc
    by_cases z : imN zw zc = zn
    · rw [if_pos (by rw [← z, y1.2.1]; omega), if_pos (by omega), z]
    · have y2 := im_sr zw hw zn (by omega)
      rw [if_neg (fun y => z (by
        have y3 : srN 8 zw zn = zc := by omega
        rw [← y3]
        exact y2.1)), imI_at zf hw hc zn (by omega)]
      by_cases q : imN zw zc < zn
      · rw [if_pos q, if_pos (by omega)]
      · rw [if_neg q, if_neg (by omega)]
theorem imI_o (zf : Nat → Int32) {zw zv : Nat} (hw : zw < 8) {zc : Nat} (hc : zc < 64) (h : zv ≠ zw) : ∀ zn, zn ≤ 64 → imI zf zw zn (64 * zv + zc) = zf (64 * zv + zc)
  | 0, _ => by rw [imI]
  | zn + 1, hn => by
    rw [imI]
    unfold upd
    have y1 := (sr8 zw hw zn (by omega)).2
    rw [if_neg (by omega), imI_o zf hw hc h zn (by omega)]
theorem imO_at (zf : Nat → Int32) {zw : Nat} (hw : zw < 8) {zc : Nat} (hc : zc < 64) : ∀ zn, zn ≤ 8 → imO zf zn (64 * zw + zc) = if zw < zn then nI (imN zw zc) else zf (64 * zw + zc)
  | 0, _ => by rw [imO, if_neg (Nat.not_lt_zero _)]
  | zn + 1, hn => by
    rw [imO]
    by_cases z : zw = zn
    · subst z
      rw [imI_at _ hw hc 64 (Nat.le_refl _), if_pos (im_sr zw hw zc hc).2.2, if_pos (by omega)]
    · rw [imI_o _ (by omega) hc z 64 (Nat.le_refl _), imO_at zf hw hc zn (by omega)]
      by_cases q : zw < zn
      · rw [if_pos q, if_pos (by omega)]
      · rw [if_neg q, if_neg (by omega)]
theorem hz_r : (List.range 76).all (fun zk => (List.range 49).all (fun zj => decide (rT zk zj = none) || decide (hz9.2.2.2 zk zj = rT zk zj))) = true := by decide +kernel
theorem rT_b {zk zj zq : Nat} (h : rT zk zj = some zq) : zk < 76 ∧ zj < 49 := by
  have h1 : rTab.length = 76 := by decide +kernel
  have h2 : ∀ zl ∈ rTab, zl.length ≤ 49 := by decide +kernel
  unfold rT at h
  rcases Nat.lt_or_ge zk 76 with a | a
  · refine ⟨a, ?_⟩
    rcases Nat.lt_or_ge zj 49 with b | b
    · exact b
    · have h3 := h2 (rTab.getD zk []) (by rw [List.getD_eq_getElem?_getD, List.getElem?_eq_getElem (by rw [h1]; exact a)]; exact List.getElem_mem _)
      rw [List.getD_eq_getElem?_getD, List.getElem?_eq_none (Nat.le_trans h3 b)] at h
      exact absurd h (by simp)
  · rw [List.getD_eq_getElem?_getD (l := rTab), List.getElem?_eq_none (by rw [h1]; exact a)] at h
    exact absurd h (by simp)
theorem hz_w : WF hz9 := by
  refine ⟨by decide +kernel, fun zk zj zq h => ?_⟩
  obtain ⟨b1, b2⟩ := rT_b h
  have h1 := List.all_eq_true.mp (List.all_eq_true.mp hz_r zk (List.mem_range.mpr b1)) zj (List.mem_range.mpr b2)
  rw [Bool.or_eq_true, decide_eq_true_eq, decide_eq_true_eq] at h1
  rcases h1 with h1 | h1
  · rw [h1] at h
    exact absurd h (by simp)
  · rw [h1]
    exact h
theorem hz_69 : ∀ zj, zj < 64 → hz9.2.1 69 zj = -1 ∧ hz9.2.1 26 zj = -1 := by decide +kernel
set_option maxRecDepth 100000 in
theorem hz_28 : hz9.2.1 28 = imO (fun _ => 0) 8 := rfl
theorem hz_L : hz9.2.2.1 27 = (fun _ => 0) ∧ hz9.2.2.1 25 = (fun _ => 0) ∧ hz9.2.2.1 49 = (fun _ => 0) := ⟨rfl, rfl, rfl⟩
theorem hz_b : hz9.2.1 35 = (fun _ => 0) ∧ hz9.2.1 68 = (fun _ => 0) ∧ hz9.2.1 75 = (fun _ => 0) ∧ hz9.2.1 42 = (fun _ => 0) ∧ hz9.2.1 44 = (fun _ => 0) ∧ hz9.2.1 46 = (fun _ => 0) ∧ hz9.2.1 48 = (fun _ => 0) := ⟨rfl, rfl, rfl, rfl, rfl, rfl, rfl⟩
theorem hz_k : KTz hz9 := ⟨by decide +kernel, by decide +kernel⟩
theorem hz_s : POK pS0 := by unfold POK; decide +kernel
theorem hz_e : ENz pS0 hz9 := by unfold ENz; decide +kernel
theorem hz_t : STz pS0 3 hz9 := by unfold STz; decide +kernel
theorem hz_h : Iv1 41 0 hz9 hz9 ∧ Iv1 43 1 hz9 hz9 ∧ Iv1 45 2 hz9 hz9 ∧ Iv1 47 3 hz9 hz9 := by
  obtain ⟨-, -, b1, b2, b3, b4, b5⟩ := hz_b
  refine ⟨⟨0, by omega, by decide +kernel, by decide +kernel, Or.inl (by decide +kernel), by decide +kernel, by decide +kernel, fun zi _ => ?_⟩, ⟨0, by omega, by decide +kernel, by decide +kernel, Or.inl (by decide +kernel), by decide +kernel, by decide +kernel, fun zi _ => ?_⟩, ⟨0, by omega, by decide +kernel, by decide +kernel, Or.inl (by decide +kernel), by decide +kernel, by decide +kernel, fun zi _ => ?_⟩, ⟨0, by omega, by decide +kernel, by decide +kernel, Or.inl (by decide +kernel), by decide +kernel, by decide +kernel, fun zi _ => ?_⟩⟩
  · rw [b1, b2]
  · rw [b1, b3]
  · rw [b1, b4]
  · rw [b1, b5]
theorem hz_f : IvF 0 hz9 hz9 := by
  obtain ⟨l1, l2, l3⟩ := hz_L
  refine ⟨⟨fun zj hj => by rw [(hz_69 zj hj).1, (hz_69 zj hj).2], fun zj hj => Or.inl (hz_69 zj hj).1, fun zc hc zj hj => ?_, fun zj hj => ?_, by rw [l2, l3]⟩, Or.inl (by decide +kernel), by decide +kernel, fun zj hj z => ?_, fun zw hw zc hc => ?_, ⟨0, by omega, by decide +kernel, Or.inl (by decide +kernel), fun z => absurd z (by decide +kernel)⟩⟩
  · rw [l1, lb_0, (hz_69 zj hj).1, decide_eq_false (m1_ne hc)]
  · rw [l2, lb_0, (hz_69 zj hj).1]
    rfl
  · rw [l3, lb_0] at z
    exact absurd z (by decide)
  · rw [hz_28, imO_at _ hw hc 8 (Nat.le_refl _), if_pos hw]
theorem InV_0 : InV 0 hz9 := by
  refine ⟨hz_w, ⟨fun _ => 0, 0, ⟨by decide +kernel, Nat.zero_le _, fun zk hk => absurd hk (Nat.not_lt_zero _)⟩, ⟨by decide +kernel, Nat.zero_le _, fun zk hk => absurd hk (Nat.not_lt_zero _)⟩⟩, ⟨pS0, hz_s, hz_e, Or.inl ⟨hz_t, by decide +kernel, by decide +kernel⟩, ⟨by decide +kernel, fun zk hk => absurd hk (Nat.not_lt_zero _), fun zk hk => absurd hk (Nat.not_lt_zero _), fun z => absurd (by decide +kernel) z⟩, ⟨by decide +kernel, fun zp zw zk zj hp => absurd hp (Nat.not_lt_zero _)⟩⟩, hz_f, ⟨by rw [hz_b.1, hz_b.2.1], 0, by omega, by decide +kernel, by decide +kernel⟩, hz_h, ⟨by decide +kernel, by decide +kernel, hz_k⟩⟩
