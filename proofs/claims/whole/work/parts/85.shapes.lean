/-- a cell's bit in a shape comes of a cell of the pattern -/
def blQ (zc : Nat → Nat) (zp zw zi zx zj : Nat) : Prop := zc (16 * zp + srN 4 zw zi) < 6 ∧ ((zx = ((zp * 2 + 0) * 8 + zw) * 6 + zc (16 * zp + srN 4 zw zi) ∧ zj = zi / 4 * 8 + zi % 4) ∨ (zx = ((zp * 2 + 1) * 8 + zw) * 6 + zc (16 * zp + srN 4 zw zi) ∧ 4 * (zj / 16) + zj % 8 / 2 = zi))
theorem blC_iff (zc : Nat → Nat) {zp zw : Nat} (hw : zw < 8) (zf : Nat → Int64) (zx : Nat) {zj : Nat} (hj : zj < 64) : ∀ zn, zn ≤ 16 → (lbt (blC zc zp zw zf zn zx) zj = true ↔ (lbt (zf zx) zj = true ∨ ∃ zi, zi < zn ∧ blQ zc zp zw zi zx zj))
  | 0, _ => by
    rw [blC]
    exact ⟨Or.inl, fun z => z.elim id (fun ⟨zi, h, _⟩ => absurd h (Nat.not_lt_zero _))⟩
  | zn + 1, hn => by
    have ih := blC_iff zc (zp := zp) hw zf zx hj zn (by omega)
    rw [blC, ad_bt, ad_bt, lb_bit (by omega) hj, b771 zn (by omega) zj hj, Bool.or_eq_true, Bool.or_eq_true, Bool.and_eq_true, Bool.and_eq_true, ih, decide_eq_true_iff, decide_eq_true_iff, decide_eq_true_iff, decide_eq_true_iff, sh_cn1 hw, sh_cn2 hw]
    constructor
    · rintro ((( z | ⟨zi, hi, hq⟩) | ⟨⟨z1, z2⟩, z3⟩) | ⟨⟨z1, z2⟩, z3⟩)
      · exact Or.inl z
      · exact Or.inr ⟨zi, by omega, hq⟩
      · exact Or.inr ⟨zn, by omega, z1, Or.inl ⟨z2, z3⟩⟩
      · exact Or.inr ⟨zn, by omega, z1, Or.inr ⟨z2, z3⟩⟩
    · rintro (z | ⟨zi, hi, hq⟩)
      · exact Or.inl (Or.inl (Or.inl z))
      · by_cases e : zi = zn
        · subst e
          rcases hq.2 with z | z
          · exact Or.inl (Or.inr ⟨⟨hq.1, z.1⟩, z.2⟩)
          · exact Or.inr ⟨⟨hq.1, z.1⟩, z.2⟩
        · exact Or.inl (Or.inl (Or.inr ⟨zi, by omega, hq⟩))
theorem blW_iff (zc : Nat → Nat) (zp : Nat) (zf : Nat → Int64) (zx : Nat) {zj : Nat} (hj : zj < 64) : ∀ zn, zn ≤ 8 → (lbt (blW zc zp zf zn zx) zj = true ↔ (lbt (zf zx) zj = true ∨ ∃ zw, zw < zn ∧ ∃ zi, zi < 16 ∧ blQ zc zp zw zi zx zj))
  | 0, _ => by
    rw [blW]
    exact ⟨Or.inl, fun z => z.elim id (fun ⟨zi, h, _⟩ => absurd h (Nat.not_lt_zero _))⟩
  | zn + 1, hn => by
    rw [blW, blC_iff zc (by omega) _ zx hj 16 (Nat.le_refl _), blW_iff zc zp zf zx hj zn (by omega)]
    constructor
    · rintro ((z | ⟨zw, h, z⟩) | z)
      · exact Or.inl z
      · exact Or.inr ⟨zw, by omega, z⟩
      · exact Or.inr ⟨zn, by omega, z⟩
    · rintro (z | ⟨zw, h, z⟩)
      · exact Or.inl (Or.inl z)
      · by_cases e : zw = zn
        · subst e
          exact Or.inr z
        · exact Or.inl (Or.inr ⟨zw, by omega, z⟩)
theorem blP_iff (zc : Nat → Nat) (zf : Nat → Int64) (zx : Nat) {zj : Nat} (hj : zj < 64) : ∀ zn, lbt (blP zc zf zn zx) zj = true ↔ (lbt (zf zx) zj = true ∨ ∃ zp, zp < zn ∧ ∃ zw, zw < 8 ∧ ∃ zi, zi < 16 ∧ blQ zc zp zw zi zx zj)
  | 0 => by
    rw [blP]
    exact ⟨Or.inl, fun z => z.elim id (fun ⟨zi, h, _⟩ => absurd h (Nat.not_lt_zero _))⟩
  | zn + 1 => by
    rw [blP, blW_iff zc zn _ zx hj 8 (Nat.le_refl _), blP_iff zc zf zx hj zn]
    constructor
    · rintro ((z | ⟨zw, h, z⟩) | z)
      · exact Or.inl z
      · exact Or.inr ⟨zw, by omega, z⟩
      · exact Or.inr ⟨zn, by omega, z⟩
    · rintro (z | ⟨zw, h, z⟩)
      · exact Or.inl (Or.inl z)
      · by_cases e : zw = zn
        · subst e
          exact Or.inr z
        · exact Or.inl (Or.inr ⟨zw, by omega, z⟩)
theorem bool_dec {zb : Bool} {zP : Prop} [Decidable zP] (h : zb = true ↔ zP) : zb = decide zP := by
  by_cases e : zP
  · rw [decide_eq_true e]; exact h.mpr e
  · rw [decide_eq_false e]
    cases zb
    · rfl
    · exact absurd (h.mp rfl) e
theorem bl_sh (h : AH) (zt : PSt) (h4 : zt.1 2 ≤ 4) : SHz (fun zp zi => zt.2 6 (16 * zp + zi)) (zt.1 2) (blH h zt) := by
  intro zp zw zk zj hp hw hk hj
  have e : (blH h zt).2.2.1 31 = blP (zt.2 6) (flL 0 (h.2.2.1 31) 384) (zt.1 2) := rfl
  have e0 : ∀ zx, zx < 384 → ¬ lbt (flL 0 (h.2.2.1 31) 384 zx) zj = true := fun zx hx => by
    rw [flL_at, if_pos hx]
    unfold lbt
    rw [show (0 : Int64).toBitVec = 0#64 from rfl, BitVec.getLsbD_zero]
    decide
  rw [e]
  constructor
  · refine bool_dec ((blP_iff _ _ _ hj _).trans ⟨?_, ?_⟩)
    · rintro (z | ⟨zq, hq, zv, hv, zi, hi, z1, z⟩)
      · exact absurd z (e0 _ (by omega))
      · rcases z with ⟨z2, z3⟩ | ⟨z2, z3⟩
        · have a1 : zq = zp := by omega
          subst a1
          have a2 : zv = zw := by omega
          subst a2
          refine ⟨by omega, by omega, ?_⟩
          rw [show 4 * (zj / 8) + zj % 8 = zi by omega]
          show zt.2 6 (16 * zq + srN 4 zv zi) = zk
          omega
        · exfalso
          omega
    · rintro ⟨z1, z2, z3⟩
      replace z3 : zt.2 6 (16 * zp + srN 4 zw (4 * (zj / 8) + zj % 8)) = zk := z3
      refine Or.inr ⟨zp, hp, zw, hw, 4 * (zj / 8) + zj % 8, by omega, ?_⟩
      unfold blQ
      rw [z3]
      exact ⟨hk, Or.inl ⟨rfl, by omega⟩⟩
  · refine bool_dec ((blP_iff _ _ _ hj _).trans ⟨?_, ?_⟩)
    · rintro (z | ⟨zq, hq, zv, hv, zi, hi, z1, z⟩)
      · exact absurd z (e0 _ (by omega))
      · rcases z with ⟨z2, z3⟩ | ⟨z2, z3⟩
        · exfalso
          omega
        · have a1 : zq = zp := by omega
          subst a1
          have a2 : zv = zw := by omega
          subst a2
          rw [z3]
          show zt.2 6 (16 * zq + srN 4 zv zi) = zk
          omega
    · intro z3
      replace z3 : zt.2 6 (16 * zp + srN 4 zw (4 * (zj / 16) + zj % 8 / 2)) = zk := z3
      refine Or.inr ⟨zp, hp, zw, hw, 4 * (zj / 16) + zj % 8 / 2, by omega, ?_⟩
      unfold blQ
      rw [z3]
      exact ⟨hk, Or.inr ⟨rfl, rfl⟩⟩
