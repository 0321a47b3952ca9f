theorem ck_0i {za zb : Nat × Nat} (h : (ckN za zb).1 = 0) : za.1 = 0 ∧ zb.1 = 0 := by
  unfold ckN at h
  by_cases h1 : za.1 = 0
  · rw [if_pos h1] at h; exact ⟨h1, h⟩
  · rw [if_neg h1] at h; exact absurd h h1
theorem if_0i {p : Prop} [Decidable p] {za : Nat} (ha : ¬ za = 0) (h : (if p then za else 0) = 0) : ¬ p := fun z => by
  rw [if_pos z] at h; exact ha h
theorem upM_at (zf : Nat → Nat → Nat) (za zi zv zk : Nat) : upM zf za zi zv za zk = if zk = zi then zv else zf za zk := by
  unfold upM upN
  rw [if_pos rfl]
theorem upM_ne (zf : Nat → Nat → Nat) {za zc : Nat} (zi zv zk : Nat) (h : zc ≠ za) : upM zf za zi zv zc zk = zf zc zk := by
  unfold upM
  rw [if_neg h]
theorem pt_bd (zb : Nat → Nat) (zn zm : Nat) : ∀ zf zc zp, zc < 2 ^ zm → (ptF zb zn zm zf zc zp).2.2 < 2 ^ zm
  | 0, zc, zp, h => by rw [ptF]; exact h
  | zf + 1, zc, zp, h => by
    rw [ptF]
    split
    · split
      · rename_i hv
        split
        · exact h
        · exact pt_bd zb zn zm zf _ _ (or_lt h hv)
      · exact h
    · exact h
theorem bkC_6 {zc : Nat} (h : bkG zc = true) : bkC zc ≤ 6 := by
  have h1 := bkG_iff.mp h
  unfold bkC
  split <;> omega
theorem bkU_6 {zb zg : Nat → Nat} {zs za : Nat} (hg : ∀ zj, zj < 4 → bkG (zb (zs + zj)) = true) (H : ∀ zk, zk < za → zg zk ≤ 6) : ∀ zk, zk < za + 4 → bkU zb zg zs za zk ≤ 6 := by
  intro zk hk
  have b0 := bkC_6 (hg 0 (by decide))
  have b1 := bkC_6 (hg 1 (by decide))
  have b2 := bkC_6 (hg 2 (by decide))
  have b3 := bkC_6 (hg 3 (by decide))
  rw [Nat.add_zero] at b0
  unfold bkU upN
  repeat' split
  all_goals first | assumption | exact H zk (by omega)
theorem bk_bd (zb : Nat → Nat) (zn : Nat) : ∀ zf za zp zg, (∀ zk, zk < za → zg zk ≤ 6) → (bkF4 zb zn zf za zp zg).1.1 = 0 → ∀ zk, zk < za + 4 * zf → (bkF4 zb zn zf za zp zg).2.2 zk ≤ 6
  | 0, za, zp, zg, H, _ => by rw [bkF4]; exact H
  | zf + 1, za, zp, zg, H, h0 => by
    rw [bkF4] at *
    by_cases h1 : tK zb zn zp = 2
    · rw [if_pos h1] at *
      by_cases h2 : bkO zb zn zp = true
      · rw [if_pos h2] at *
        intro zk hk
        exact bk_bd zb zn zf _ _ _ (bkU_6 (bkO_iff.mp h2).2 H) h0 zk (by omega)
      · rw [if_neg h2] at h0
        exact absurd h0 (show ¬ (3 : Nat) = 0 by decide)
    · rw [if_neg h1] at h0
      have h3 : (if tK zb zn zp = 0 then 1 else 2) = 0 := h0
      split at h3 <;> omega
theorem p2_s {zx zm : Nat} (h : zx < 2 ^ zm) : zx < 2 ^ (zm + 1) := Nat.lt_of_lt_of_le h (Nat.pow_le_pow_right (by decide) (Nat.le_succ zm))
theorem row_ok {zb : Nat → Nat} {zn zs zp : Nat} {zt : PSt} (hO : POK zt) (h : (rowB zb zn zs zp zt).1.1 = 0) : POK (rowB zb zn zs zp zt).2.2 := by
  obtain ⟨h1, h2, h3, h4, h5, h6, h7, h8⟩ := hO
  obtain ⟨a1, a2⟩ := ck_0i h
  obtain ⟨a3, a4⟩ := ck_0i a2
  obtain ⟨a5, a6⟩ := ck_0i a4
  have b1 := if_0i (by decide) a1
  have b2 := (fn_0.mp a3).2
  have b3 := (fn_0.mp a5).2
  refine ⟨?_, h2, h3, h4, h5, fun zk hk => ?_, h7, h8⟩
  · show zt.1 1 + 1 ≤ 12
    omega
  · have hk' : zk < zt.1 1 + 1 := hk
    show upM (upM (upM (upM zt.2 0 (zt.1 1) (tV zb zn zp)) 1 (zt.1 1) (tV zb zn (tE zb zn zp))) 2 (zt.1 1) 0) 3 (zt.1 1) 0 0 zk ≤ 99 ∧ upM (upM (upM (upM zt.2 0 (zt.1 1) (tV zb zn zp)) 1 (zt.1 1) (tV zb zn (tE zb zn zp))) 2 (zt.1 1) 0) 3 (zt.1 1) 0 1 zk ≤ 999 ∧ upM (upM (upM (upM zt.2 0 (zt.1 1) (tV zb zn zp)) 1 (zt.1 1) (tV zb zn (tE zb zn zp))) 2 (zt.1 1) 0) 3 (zt.1 1) 0 2 zk < 2 ^ (zt.1 1 + 1) ∧ upM (upM (upM (upM zt.2 0 (zt.1 1) (tV zb zn zp)) 1 (zt.1 1) (tV zb zn (tE zb zn zp))) 2 (zt.1 1) 0) 3 (zt.1 1) 0 3 zk < 2 ^ (zt.1 1 + 1)
    rw [upM_ne _ _ _ _ (by decide), upM_ne _ _ _ _ (by decide), upM_ne _ _ _ _ (by decide), upM_at, upM_ne _ _ _ _ (by decide), upM_ne _ _ _ _ (by decide), upM_at, upM_ne _ _ _ _ (by decide), upM_ne _ _ _ _ (by decide), upM_at, upM_ne _ _ _ _ (by decide), upM_ne _ _ _ _ (by decide), upM_at, upM_ne _ _ _ _ (by decide), upM_ne _ _ _ _ (by decide), upM_ne _ _ _ _ (by decide)]
    by_cases e : zk = zt.1 1
    · rw [if_pos e, if_pos e, if_pos e, if_pos e]
      exact ⟨by omega, by omega, Nat.two_pow_pos _, Nat.two_pow_pos _⟩
    · rw [if_neg e, if_neg e, if_neg e, if_neg e]
      have h9 := h6 zk (by omega)
      exact ⟨h9.1, h9.2.1, p2_s h9.2.2.1, p2_s h9.2.2.2⟩
theorem pat_ok {zb : Nat → Nat} {zn zs zp : Nat} {zt : PSt} (hO : POK zt) (h : (patB zb zn zs zp zt).1.1 = 0) : POK (patB zb zn zs zp zt).2.2 := by
  obtain ⟨h1, h2, h3, h4, h5, h6, h7, h8⟩ := hO
  obtain ⟨a1, a2⟩ := ck_0i h
  have b1 := if_0i (by decide) a1
  have b2 := pt_bd zb zn (zt.1 1) 13 0 zp (Nat.two_pow_pos _)
  refine ⟨?_, h2, h3, h4, h5, fun zk hk => ?_, h7, h8⟩
  · show zt.1 1 + 1 ≤ 12
    omega
  · have hk' : zk < zt.1 1 + 1 := hk
    show upM (upM (upM (upM zt.2 0 (zt.1 1) 0) 1 (zt.1 1) 0) 2 (zt.1 1) (ptF zb zn (zt.1 1) 13 0 zp).2.2) 3 (zt.1 1) 0 0 zk ≤ 99 ∧ upM (upM (upM (upM zt.2 0 (zt.1 1) 0) 1 (zt.1 1) 0) 2 (zt.1 1) (ptF zb zn (zt.1 1) 13 0 zp).2.2) 3 (zt.1 1) 0 1 zk ≤ 999 ∧ upM (upM (upM (upM zt.2 0 (zt.1 1) 0) 1 (zt.1 1) 0) 2 (zt.1 1) (ptF zb zn (zt.1 1) 13 0 zp).2.2) 3 (zt.1 1) 0 2 zk < 2 ^ (zt.1 1 + 1) ∧ upM (upM (upM (upM zt.2 0 (zt.1 1) 0) 1 (zt.1 1) 0) 2 (zt.1 1) (ptF zb zn (zt.1 1) 13 0 zp).2.2) 3 (zt.1 1) 0 3 zk < 2 ^ (zt.1 1 + 1)
    rw [upM_ne _ _ _ _ (by decide), upM_ne _ _ _ _ (by decide), upM_ne _ _ _ _ (by decide), upM_at, upM_ne _ _ _ _ (by decide), upM_ne _ _ _ _ (by decide), upM_at, upM_ne _ _ _ _ (by decide), upM_ne _ _ _ _ (by decide), upM_at, upM_ne _ _ _ _ (by decide), upM_ne _ _ _ _ (by decide), upM_at, upM_ne _ _ _ _ (by decide), upM_ne _ _ _ _ (by decide), upM_ne _ _ _ _ (by decide)]
    by_cases e : zk = zt.1 1
    · rw [if_pos e, if_pos e, if_pos e, if_pos e]
      exact ⟨by omega, by omega, p2_s b2, Nat.two_pow_pos _⟩
    · rw [if_neg e, if_neg e, if_neg e, if_neg e]
      have h9 := h6 zk (by omega)
      exact ⟨h9.1, h9.2.1, p2_s h9.2.2.1, p2_s h9.2.2.2⟩
theorem giv_ok {zb : Nat → Nat} {zn zp : Nat} {zt : PSt} (hO : POK zt) (h : (givB zb zn zp zt).1.1 = 0) : POK (givB zb zn zp zt).2.2 := by
  obtain ⟨h1, h2, h3, h4, h5, h6, h7, h8⟩ := hO
  obtain ⟨a1, a2⟩ := ck_0i h
  obtain ⟨a3, a4⟩ := ck_0i a2
  have b1 := (fn_0.mp a1).2
  have b2 := (fn_0.mp a3).2
  refine ⟨h1, h2, h3, h4, h5, fun zk hk => ?_, h7, h8⟩
  have h9 := h6 zk hk
  refine ⟨h9.1, h9.2.1, h9.2.2.1, ?_⟩
  show upM zt.2 3 (tV zb zn zp) _ 3 zk < 2 ^ zt.1 1
  rw [upM_at]
  split
  · exact or_lt (h6 _ b1.2).2.2.2 b2.2
  · exact h9.2.2.2
theorem apa_ok {zb : Nat → Nat} {zn zs zp : Nat} {zt : PSt} (hO : POK zt) (h : (apaB zb zn zs zp zt).1.1 = 0) : POK (apaB zb zn zs zp zt).2.2 := by
  obtain ⟨h1, h2, h3, h4, h5, h6, h7, h8⟩ := hO
  obtain ⟨a1, a2⟩ := ck_0i h
  obtain ⟨a3, a4⟩ := ck_0i a2
  have b1 := (fn_0.mp a3).2
  refine ⟨h1, h2, ?_, ?_, h5, h6, h7, h8⟩
  · show tV zb zn zp ≤ 99
    omega
  · show 1 ≤ 1
    exact Nat.le_refl _
theorem qua_ok {zb : Nat → Nat} {zn zp : Nat} {zt : PSt} (hO : POK zt) (h : (quaB zb zn zp zt).1.1 = 0) : POK (quaB zb zn zp zt).2.2 := by
  obtain ⟨h1, h2, h3, h4, h5, h6, h7, h8⟩ := hO
  obtain ⟨a1, a2⟩ := ck_0i h
  obtain ⟨a3, a4⟩ := ck_0i a2
  obtain ⟨a5, a6⟩ := ck_0i a4
  obtain ⟨a7, a8⟩ := ck_0i a6
  obtain ⟨a9, a10⟩ := ck_0i a8
  have b0 : zb (tS zb zn zp) - 97 < 6 := by
    have z1 : (if tE zb zn zp = tS zb zn zp + 1 ∧ zb (tS zb zn zp) - 97 < 6 then 0 else 3) = 0 := a3
    by_cases hc : tE zb zn zp = tS zb zn zp + 1 ∧ zb (tS zb zn zp) - 97 < 6
    · exact hc.2
    · rw [if_neg hc] at z1; omega
  have b1 := (fn_0.mp a7).2
  have b2 := (fn_0.mp a9).2
  refine ⟨h1, h2, h3, h4, ?_, h6, fun zk hk => ?_, h8⟩
  · exact or_lt (m := 6) h5 b0
  · have h9 := h7 zk hk
    show upM (upM zt.2 4 (zb (tS zb zn zp) - 97) (tV zb zn (tE zb zn zp))) 5 (zb (tS zb zn zp) - 97) (tV zb zn (tE zb zn (tE zb zn zp))) 4 zk ≤ 99 ∧ 1 ≤ upM (upM zt.2 4 (zb (tS zb zn zp) - 97) (tV zb zn (tE zb zn zp))) 5 (zb (tS zb zn zp) - 97) (tV zb zn (tE zb zn (tE zb zn zp))) 5 zk ∧ upM (upM zt.2 4 (zb (tS zb zn zp) - 97) (tV zb zn (tE zb zn zp))) 5 (zb (tS zb zn zp) - 97) (tV zb zn (tE zb zn (tE zb zn zp))) 5 zk ≤ 99
    rw [upM_ne _ _ _ _ (by decide), upM_at, upM_at, upM_ne _ _ _ _ (by decide)]
    by_cases e : zk = zb (tS zb zn zp) - 97
    · rw [if_pos e, if_pos e]; omega
    · rw [if_neg e, if_neg e]; exact h9
theorem bok_ok {zb : Nat → Nat} {zn zs zp : Nat} {zt : PSt} (hO : POK zt) (h : (bokB zb zn zs zp zt).1.1 = 0) : POK (bokB zb zn zs zp zt).2.2 := by
  obtain ⟨h1, h2, h3, h4, h5, h6, h7, h8⟩ := hO
  obtain ⟨a1, a2⟩ := ck_0i h
  have b1 := if_0i (by decide) a1
  have b2 := bk_bd zb zn 4 (16 * zt.1 2) zp (zt.2 6) h8 a2
  refine ⟨h1, ?_, h3, h4, h5, h6, h7, fun zk hk => ?_⟩
  · show zt.1 2 + 1 ≤ 4
    omega
  · have hk' : zk < 16 * (zt.1 2 + 1) := hk
    exact b2 zk (by omega)
theorem lin_ok {zb : Nat → Nat} {zn zp : Nat} {zt : PSt} (hO : POK zt) (h : (linB zb zn zp zt).1.1 = 0) : POK (linB zb zn zp zt).2.2 := by
  unfold linB at *
  by_cases h2 : tK zb zn zp = 2
  · rw [if_pos h2] at *
    by_cases e0 : wdF zb (tS zb zn zp) (tE zb zn zp - tS zb zn zp) = 0
    · rw [if_pos e0] at *; exact row_ok hO h
    · rw [if_neg e0] at *
      by_cases e1 : wdF zb (tS zb zn zp) (tE zb zn zp - tS zb zn zp) = 1
      · rw [if_pos e1] at *; exact pat_ok hO h
      · rw [if_neg e1] at *
        by_cases e2 : wdF zb (tS zb zn zp) (tE zb zn zp - tS zb zn zp) = 2
        · rw [if_pos e2] at *; exact giv_ok hO h
        · rw [if_neg e2] at *
          by_cases e3 : wdF zb (tS zb zn zp) (tE zb zn zp - tS zb zn zp) = 3
          · rw [if_pos e3] at *; exact apa_ok hO h
          · rw [if_neg e3] at *
            by_cases e4 : wdF zb (tS zb zn zp) (tE zb zn zp - tS zb zn zp) = 4
            · rw [if_pos e4] at *; exact qua_ok hO h
            · rw [if_neg e4] at *
              by_cases e5 : wdF zb (tS zb zn zp) (tE zb zn zp - tS zb zn zp) = 5
              · rw [if_pos e5] at *; exact bok_ok hO h
              · rw [if_neg e5] at *; exact hO
  · rw [if_neg h2] at *; exact hO
theorem pt_ge (zb : Nat → Nat) {zn zm : Nat} : ∀ zf zc {zp}, zp ≤ zn → zp ≤ (ptF zb zn zm zf zc zp).2.1
  | 0, _, _, h => by rw [ptF]; exact Nat.le_refl _
  | zf + 1, zc, zp, h => by
    rw [ptF]
    repeat' split
    · exact Nat.le_refl _
    · exact Nat.le_trans (tE_le zb h).1 (pt_ge zb zf _ (tE_le zb h).2)
    · exact Nat.le_refl _
    · exact Nat.le_refl _
theorem bk_ge (zb : Nat → Nat) {zn : Nat} : ∀ zf za zg {zp}, zp ≤ zn → zp ≤ (bkF4 zb zn zf za zp zg).2.1
  | 0, _, _, _, h => by rw [bkF4]; exact Nat.le_refl _
  | zf + 1, za, zg, zp, h => by
    rw [bkF4]
    repeat' split
    · exact Nat.le_trans (tE_le zb h).1 (bk_ge zb zf _ _ (tE_le zb h).2)
    · exact Nat.le_refl _
    · exact Nat.le_refl _
    · exact Nat.le_refl _
/-- a good line begins with a name and ends behind it -/
theorem lin_gt {zb : Nat → Nat} {zn zp : Nat} {zt : PSt} (hp : zp ≤ zn) (h : (linB zb zn zp zt).1.1 = 0) : tK zb zn zp = 2 ∧ zp < (linB zb zn zp zt).2.1 := by
  have h1 := tE_le zb hp
  have h2 := tE_le zb h1.2
  have h3 := tE_le zb h2.2
  have h4 := tE_le zb h3.2
  by_cases hk : tK zb zn zp = 2
  · refine ⟨hk, ?_⟩
    have h5 := tk_2 hk
    have h6 := (tE_ok zb hp).2.2 h5.1
    have h7 := (tS_ok zb hp).1
    unfold linB at *
    rw [if_pos hk] at *
    by_cases e0 : wdF zb (tS zb zn zp) (tE zb zn zp - tS zb zn zp) = 0
    · rw [if_pos e0]; show zp < tE zb zn (tE zb zn (tE zb zn zp)); omega
    · rw [if_neg e0] at *
      by_cases e1 : wdF zb (tS zb zn zp) (tE zb zn zp - tS zb zn zp) = 1
      · rw [if_pos e1]
        have h8 := pt_ge zb (zm := zt.1 1) 13 0 h1.2
        exact Nat.lt_of_lt_of_le (by omega) h8
      · rw [if_neg e1] at *
        by_cases e2 : wdF zb (tS zb zn zp) (tE zb zn zp - tS zb zn zp) = 2
        · rw [if_pos e2]; show zp < tE zb zn (tE zb zn (tE zb zn zp)); omega
        · rw [if_neg e2] at *
          by_cases e3 : wdF zb (tS zb zn zp) (tE zb zn zp - tS zb zn zp) = 3
          · rw [if_pos e3]; show zp < tE zb zn (tE zb zn zp); omega
          · rw [if_neg e3] at *
            by_cases e4 : wdF zb (tS zb zn zp) (tE zb zn zp - tS zb zn zp) = 4
            · rw [if_pos e4]; show zp < tE zb zn (tE zb zn (tE zb zn (tE zb zn zp))); omega
            · rw [if_neg e4] at *
              by_cases e5 : wdF zb (tS zb zn zp) (tE zb zn zp - tS zb zn zp) = 5
              · rw [if_pos e5]
                have h8 := bk_ge zb 4 (16 * zt.1 2) (zt.2 6) h1.2
                exact Nat.lt_of_lt_of_le (by omega) h8
              · rw [if_neg e5] at h
                exact absurd h (show ¬ (2 : Nat) = 0 by decide)
  · unfold linB at h
    rw [if_neg hk] at h
    exact absurd (fk_0.mp h) hk
theorem linP_0 {zb : Nat → Nat} {zn zp : Nat} {zt : PSt} (h : (linP zb zn zp zt).1.1 = 0) : (linB zb zn zp zt).1.1 = 0 ∧ tK zb zn (linB zb zn zp zt).2.1 = 4 := by
  obtain ⟨a1, a2⟩ := ck_0i h
  exact ⟨a1, fk_0.mp a2⟩
theorem linP_gt {zb : Nat → Nat} {zn zp : Nat} {zt : PSt} (hp : zp ≤ zn) (h : (linP zb zn zp zt).1.1 = 0) : zp < (linP zb zn zp zt).2.1 ∧ (linP zb zn zp zt).2.1 ≤ zn := by
  have h1 := lin_gt hp (linP_0 h).1
  have h2 := tE_le zb (lin_le zb zt hp)
  show zp < tE zb zn (linB zb zn zp zt).2.1 ∧ tE zb zn (linB zb zn zp zt).2.1 ≤ zn
  omega
theorem linP_ok {zb : Nat → Nat} {zn zp : Nat} {zt : PSt} (hO : POK zt) (h : (linP zb zn zp zt).1.1 = 0) : POK (linP zb zn zp zt).2.2 := lin_ok hO (linP_0 h).1
theorem pS0_ok : POK pS0 := by
  refine ⟨by decide, by decide, by decide, by decide, by decide, fun zk hk => absurd hk (Nat.not_lt_zero _), fun zk _ => ?_, fun zk hk => absurd hk (Nat.not_lt_zero _)⟩
  show (1 : Nat) ≤ 99 ∧ (1 : Nat) ≤ 10 ∧ (10 : Nat) ≤ 99
  decide
