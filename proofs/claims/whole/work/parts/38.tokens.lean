def rnF (zb : Nat → Nat) (zn : Nat) (zP : Nat → Bool) : Nat → Nat → Nat
  | 0, zp => zp
  | zf + 1, zp => if zp < zn ∧ zP (zb zp) = true then rnF zb zn zP zf (zp + 1) else zp
def rnN (zb : Nat → Nat) (zn : Nat) (zP : Nat → Bool) (zp : Nat) : Nat := rnF zb zn zP (zn - zp) zp
theorem rn_eq (zb : Nat → Nat) (zn : Nat) (zP : Nat → Bool) (zp : Nat) : rnN zb zn zP zp = if zp < zn ∧ zP (zb zp) = true then rnN zb zn zP (zp + 1) else zp := by
  unfold rnN
  by_cases h : zp < zn
  · obtain ⟨zf, hf⟩ : ∃ zf, zn - zp = zf + 1 := ⟨zn - zp - 1, by omega⟩
    rw [hf, rnF, show zn - (zp + 1) = zf by omega]
  · rw [if_neg (fun z => h z.1), show zn - zp = 0 by omega, rnF]
theorem rn_in {zb : Nat → Nat} {zn : Nat} {zP : Nat → Bool} {zp : Nat} (h1 : zp < zn) (h2 : zP (zb zp) = true) : rnN zb zn zP zp = rnN zb zn zP (zp + 1) := by rw [rn_eq, if_pos ⟨h1, h2⟩]
theorem rn_out {zb : Nat → Nat} {zn : Nat} {zP : Nat → Bool} {zp : Nat} (h : ¬ (zp < zn ∧ zP (zb zp) = true)) : rnN zb zn zP zp = zp := by rw [rn_eq, if_neg h]
theorem rnF_ok (zb : Nat → Nat) (zn : Nat) (zP : Nat → Bool) : ∀ zf zp, zp + zf = zn → zp ≤ rnF zb zn zP zf zp ∧ rnF zb zn zP zf zp ≤ zn ∧ (rnF zb zn zP zf zp < zn → zP (zb (rnF zb zn zP zf zp)) = false) ∧ ∀ zj, zp ≤ zj → zj < rnF zb zn zP zf zp → zP (zb zj) = true
  | 0, zp, h => by
    refine ⟨Nat.le_refl _, by rw [rnF]; omega, fun z => ?_, fun zj h1 h2 => ?_⟩
    · rw [rnF] at z; omega
    · rw [rnF] at h2; omega
  | zf + 1, zp, h => by
    rw [rnF]
    by_cases hc : zp < zn ∧ zP (zb zp) = true
    · rw [if_pos hc]
      have ih := rnF_ok zb zn zP zf (zp + 1) (by omega)
      refine ⟨by omega, ih.2.1, ih.2.2.1, fun zj h1 h2 => ?_⟩
      by_cases e : zj = zp
      · rw [e]; exact hc.2
      · exact ih.2.2.2 zj (by omega) h2
    · rw [if_neg hc]
      refine ⟨Nat.le_refl _, by omega, fun z => ?_, fun zj h1 h2 => by omega⟩
      cases hb : zP (zb zp)
      · rfl
      · exact absurd ⟨z, hb⟩ hc
theorem rn_ok (zb : Nat → Nat) {zn : Nat} (zP : Nat → Bool) {zp : Nat} (h : zp ≤ zn) : zp ≤ rnN zb zn zP zp ∧ rnN zb zn zP zp ≤ zn ∧ (rnN zb zn zP zp < zn → zP (zb (rnN zb zn zP zp)) = false) ∧ ∀ zj, zp ≤ zj → zj < rnN zb zn zP zp → zP (zb zj) = true := rnF_ok zb zn zP (zn - zp) zp (by omega)
def isW (zc : Nat) : Bool := decide (zc = 32)
def isL (zc : Nat) : Bool := decide (97 ≤ zc ∧ zc ≤ 122)
def isD (zc : Nat) : Bool := decide (48 ≤ zc ∧ zc ≤ 57)
/-- a token's first byte, the place behind it, its kind (0 none, 1 the end, 2 a name, 3 a number, 4 the sign), its number -/
def tS (zb : Nat → Nat) (zn zp : Nat) : Nat := rnN zb zn isW zp
def tE (zb : Nat → Nat) (zn zp : Nat) : Nat := if tS zb zn zp < zn then (if isL (zb (tS zb zn zp)) then rnN zb zn isL (tS zb zn zp) else if isD (zb (tS zb zn zp)) then rnN zb zn isD (tS zb zn zp) else tS zb zn zp + 1) else tS zb zn zp
def tK (zb : Nat → Nat) (zn zp : Nat) : Nat := if tS zb zn zp < zn then (if isL (zb (tS zb zn zp)) then 2 else if isD (zb (tS zb zn zp)) then (if tE zb zn zp - tS zb zn zp ≤ 3 then 3 else 0) else if zb (tS zb zn zp) = 59 then 4 else 0) else 1
def dgN (zb : Nat → Nat) (zs : Nat) : Nat → Nat
  | 0 => 0
  | zk + 1 => 10 * dgN zb zs zk + (zb (zs + zk) - 48)
def tV (zb : Nat → Nat) (zn zp : Nat) : Nat := dgN zb (tS zb zn zp) (tE zb zn zp - tS zb zn zp)
theorem tS_ok (zb : Nat → Nat) {zn zp : Nat} (h : zp ≤ zn) : zp ≤ tS zb zn zp ∧ tS zb zn zp ≤ zn := ⟨(rn_ok zb isW h).1, (rn_ok zb isW h).2.1⟩
theorem tE_ok (zb : Nat → Nat) {zn zp : Nat} (h : zp ≤ zn) : tS zb zn zp ≤ tE zb zn zp ∧ tE zb zn zp ≤ zn ∧ (tS zb zn zp < zn → tS zb zn zp < tE zb zn zp) := by
  have h1 := tS_ok zb h
  unfold tE
  by_cases h2 : tS zb zn zp < zn
  · rw [if_pos h2]
    by_cases h3 : isL (zb (tS zb zn zp)) = true
    · rw [if_pos h3]
      have h4 := rn_ok zb isL (Nat.le_of_lt h2)
      have h5 := rn_ok zb isL (show tS zb zn zp + 1 ≤ zn from h2)
      have h6 := rn_in h2 h3
      exact ⟨h4.1, h4.2.1, fun _ => by omega⟩
    · rw [if_neg h3]
      by_cases h7 : isD (zb (tS zb zn zp)) = true
      · rw [if_pos h7]
        have h4 := rn_ok zb isD (Nat.le_of_lt h2)
        have h5 := rn_ok zb isD (show tS zb zn zp + 1 ≤ zn from h2)
        have h6 := rn_in h2 h7
        exact ⟨h4.1, h4.2.1, fun _ => by omega⟩
      · rw [if_neg h7]
        exact ⟨by omega, by omega, fun _ => by omega⟩
  · rw [if_neg h2]
    exact ⟨Nat.le_refl _, h1.2, fun z => absurd z h2⟩
theorem tE_le (zb : Nat → Nat) {zn zp : Nat} (h : zp ≤ zn) : zp ≤ tE zb zn zp ∧ tE zb zn zp ≤ zn := by
  have h1 := tS_ok zb h
  have h2 := tE_ok zb h
  omega
theorem tK_cases (zb : Nat → Nat) (zn zp : Nat) : tK zb zn zp = 0 ∨ tK zb zn zp = 1 ∨ tK zb zn zp = 2 ∨ tK zb zn zp = 3 ∨ tK zb zn zp = 4 := by
  unfold tK
  repeat' split
  all_goals simp
theorem dg_bd {zb : Nat → Nat} {zs : Nat} : ∀ zk, zk ≤ 3 → (∀ zj, zj < zk → zb (zs + zj) ≤ 57) → dgN zb zs zk < 10 ^ zk
  | 0, _, _ => Nat.one_pos
  | zk + 1, h, H => by
    have ih := dg_bd (zb := zb) (zs := zs) zk (by omega) (fun zj hj => H zj (by omega))
    have h1 := H zk (by omega)
    rw [dgN, Nat.pow_succ]
    omega
theorem p10 : ∀ zk, zk ≤ 3 → 10 ^ zk ≤ 1000 := by decide
theorem tk_3 {zb : Nat → Nat} {zn zp : Nat} (h : tK zb zn zp = 3) : tS zb zn zp < zn ∧ isD (zb (tS zb zn zp)) = true ∧ tE zb zn zp - tS zb zn zp ≤ 3 ∧ tE zb zn zp = rnN zb zn isD (tS zb zn zp) := by
  unfold tK at h
  by_cases h1 : tS zb zn zp < zn
  · rw [if_pos h1] at h
    by_cases h2 : isL (zb (tS zb zn zp)) = true
    · rw [if_pos h2] at h; omega
    · rw [if_neg h2] at h
      by_cases h3 : isD (zb (tS zb zn zp)) = true
      · rw [if_pos h3] at h
        by_cases h4 : tE zb zn zp - tS zb zn zp ≤ 3
        · exact ⟨h1, h3, h4, by unfold tE; rw [if_pos h1, if_neg h2, if_pos h3]⟩
        · rw [if_neg h4] at h; omega
      · rw [if_neg h3] at h
        split at h <;> omega
  · rw [if_neg h1] at h; omega
theorem tk_2 {zb : Nat → Nat} {zn zp : Nat} (h : tK zb zn zp = 2) : tS zb zn zp < zn ∧ isL (zb (tS zb zn zp)) = true ∧ tE zb zn zp = rnN zb zn isL (tS zb zn zp) := by
  unfold tK at h
  by_cases h1 : tS zb zn zp < zn
  · rw [if_pos h1] at h
    by_cases h2 : isL (zb (tS zb zn zp)) = true
    · exact ⟨h1, h2, by unfold tE; rw [if_pos h1, if_pos h2]⟩
    · rw [if_neg h2] at h
      repeat' split at h
      all_goals omega
  · rw [if_neg h1] at h; omega
theorem tk_1 {zb : Nat → Nat} {zn zp : Nat} (hp : zp ≤ zn) : tK zb zn zp = 1 ↔ tS zb zn zp = zn := by
  have h0 := tS_ok zb hp
  unfold tK
  by_cases h1 : tS zb zn zp < zn
  · rw [if_pos h1]
    constructor
    · intro h
      repeat' split at h
      all_goals omega
    · intro h; omega
  · rw [if_neg h1]
    exact ⟨fun _ => by omega, fun _ => rfl⟩
theorem tV_bd {zb : Nat → Nat} {zn zp : Nat} (hp : zp ≤ zn) (h : tK zb zn zp = 3) : tV zb zn zp < 1000 := by
  have h1 := tk_3 h
  have h2 := rn_ok zb isD (tS_ok zb hp).2
  unfold tV
  refine Nat.lt_of_lt_of_le (dg_bd _ h1.2.2.1 (fun zj hj => ?_)) (p10 _ h1.2.2.1)
  have h3 := h2.2.2.2 (tS zb zn zp + zj) (by omega) (by omega)
  unfold isD at h3
  exact (of_decide_eq_true h3).2
/-- faults: their codes; 0: none -/
def wrK (zb : Nat → Nat) (zn zp : Nat) : Nat := if tK zb zn zp = 0 then 1 else 0
def fkK (zb : Nat → Nat) (zn zp zk : Nat) : Nat := if tK zb zn zp = zk then 0 else if tK zb zn zp = 0 then 1 else 2
def fnK (zb : Nat → Nat) (zn zp zl zm : Nat) : Nat := if tK zb zn zp = 3 then (if zl ≤ tV zb zn zp ∧ tV zb zn zp < zm then 0 else 3) else if tK zb zn zp = 0 then 1 else 2
theorem fn_0 {zb : Nat → Nat} {zn zp zl zm : Nat} : fnK zb zn zp zl zm = 0 ↔ tK zb zn zp = 3 ∧ zl ≤ tV zb zn zp ∧ tV zb zn zp < zm := by
  unfold fnK
  by_cases h : tK zb zn zp = 3
  · rw [if_pos h]
    by_cases h2 : zl ≤ tV zb zn zp ∧ tV zb zn zp < zm
    · rw [if_pos h2]; exact ⟨fun _ => ⟨h, h2⟩, fun _ => rfl⟩
    · rw [if_neg h2]; exact ⟨fun z => by omega, fun z => absurd z.2 h2⟩
  · rw [if_neg h]
    refine ⟨fun z => ?_, fun z => absurd z.1 h⟩
    split at z <;> omega
theorem fk_0 {zb : Nat → Nat} {zn zp zk : Nat} : fkK zb zn zp zk = 0 ↔ tK zb zn zp = zk := by
  unfold fkK
  by_cases h : tK zb zn zp = zk
  · rw [if_pos h]; exact ⟨fun _ => h, fun _ => rfl⟩
  · rw [if_neg h]
    refine ⟨fun z => ?_, fun z => absurd z h⟩
    split at z <;> omega
theorem fn_5 (zb : Nat → Nat) (zn zp zl zm : Nat) : fnK zb zn zp zl zm ≤ 5 := by
  unfold fnK; repeat' split
  all_goals omega
theorem fk_5 (zb : Nat → Nat) (zn zp zk : Nat) : fkK zb zn zp zk ≤ 5 := by
  unfold fkK; repeat' split
  all_goals omega
/-- the first fault of two -/
def ckN (za zb : Nat × Nat) : Nat × Nat := if za.1 = 0 then zb else za
theorem ck_0 {za zb : Nat × Nat} (h : za.1 = 0) : ckN za zb = zb := if_pos h
theorem ck_1 {za zb : Nat × Nat} (h : ¬ za.1 = 0) : ckN za zb = za := if_neg h
/-- what a text tells so far: numbers (1 things, 2 patterns, 3 apart, 4 it is told, 5 quarries told), rows (0 cubes, 1 lengths, 2 cuts, 3 gives, 4 prices, 5 days, 6 cells of patterns, 6: none) -/
abbrev PSt : Type := (Nat → Nat) × (Nat → Nat → Nat)
def upN (zf : Nat → Nat) (zi zv : Nat) : Nat → Nat := fun zk => if zk = zi then zv else zf zk
def upM (zf : Nat → Nat → Nat) (za zi zv : Nat) : Nat → Nat → Nat := fun zk => if zk = za then upN (zf zk) zi zv else zf zk
def pS0 : PSt := (fun zk => if zk = 3 then 10 else 0, fun za _ => if za = 4 then 1 else if za = 5 then 10 else 0)
/-- a line's body, from behind its name on: the fault and its place, the place behind the body, what is told -/
abbrev LRs : Type := (Nat × Nat) × Nat × PSt
def rowB (zb : Nat → Nat) (zn zs zp : Nat) (zt : PSt) : LRs :=
  (ckN (if zt.1 1 = 12 then 5 else 0, zs) (ckN (fnK zb zn zp 1 100, tS zb zn zp) (ckN (fnK zb zn (tE zb zn zp) 1 1000, tS zb zn (tE zb zn zp)) (wrK zb zn (tE zb zn (tE zb zn zp)), tS zb zn (tE zb zn (tE zb zn zp))))),
   tE zb zn (tE zb zn zp), (upN zt.1 1 (zt.1 1 + 1), upM (upM (upM (upM zt.2 0 (zt.1 1) (tV zb zn zp)) 1 (zt.1 1) (tV zb zn (tE zb zn zp))) 2 (zt.1 1) 0) 3 (zt.1 1) 0))
def ptF (zb : Nat → Nat) (zn zm : Nat) : Nat → Nat → Nat → (Nat × Nat) × Nat × Nat
  | 0, zc, zp => ((0, 0), zp, zc)
  | zf + 1, zc, zp => if tK zb zn zp = 3 then (if tV zb zn zp < zm then (if zc.testBit (tV zb zn zp) then ((4, tS zb zn zp), zp, zc) else ptF zb zn zm zf (zc ||| 2 ^ tV zb zn zp) (tE zb zn zp)) else ((3, tS zb zn zp), zp, zc)) else ((wrK zb zn zp, tS zb zn zp), zp, zc)
def patB (zb : Nat → Nat) (zn zs zp : Nat) (zt : PSt) : LRs :=
  (ckN (if zt.1 1 = 12 then 5 else 0, zs) (ptF zb zn (zt.1 1) 13 0 zp).1, (ptF zb zn (zt.1 1) 13 0 zp).2.1,
   (upN zt.1 1 (zt.1 1 + 1), upM (upM (upM (upM zt.2 0 (zt.1 1) 0) 1 (zt.1 1) 0) 2 (zt.1 1) (ptF zb zn (zt.1 1) 13 0 zp).2.2) 3 (zt.1 1) 0))
def givB (zb : Nat → Nat) (zn zp : Nat) (zt : PSt) : LRs :=
  (ckN (fnK zb zn zp 0 (zt.1 1), tS zb zn zp) (ckN (fnK zb zn (tE zb zn zp) 0 (zt.1 1), tS zb zn (tE zb zn zp)) (ckN (if tV zb zn zp = tV zb zn (tE zb zn zp) then 3 else 0, tS zb zn (tE zb zn zp)) (ckN (if (zt.2 3 (tV zb zn zp)).testBit (tV zb zn (tE zb zn zp)) then 4 else 0, tS zb zn (tE zb zn zp)) (wrK zb zn (tE zb zn (tE zb zn zp)), tS zb zn (tE zb zn (tE zb zn zp)))))),
   tE zb zn (tE zb zn zp), (zt.1, upM zt.2 3 (tV zb zn zp) (zt.2 3 (tV zb zn zp) ||| 2 ^ tV zb zn (tE zb zn zp))))
def apaB (zb : Nat → Nat) (zn zs zp : Nat) (zt : PSt) : LRs :=
  (ckN (if zt.1 4 = 0 then 0 else 4, zs) (ckN (fnK zb zn zp 0 100, tS zb zn zp) (wrK zb zn (tE zb zn zp), tS zb zn (tE zb zn zp))), tE zb zn zp, (upN (upN zt.1 3 (tV zb zn zp)) 4 1, zt.2))
def quaB (zb : Nat → Nat) (zn zp : Nat) (zt : PSt) : LRs :=
  (ckN (fkK zb zn zp 2, tS zb zn zp) (ckN (if tE zb zn zp = tS zb zn zp + 1 ∧ zb (tS zb zn zp) - 97 < 6 then 0 else 3, tS zb zn zp) (ckN (if (zt.1 5).testBit (zb (tS zb zn zp) - 97) then 4 else 0, tS zb zn zp) (ckN (fnK zb zn (tE zb zn zp) 0 100, tS zb zn (tE zb zn zp)) (ckN (fnK zb zn (tE zb zn (tE zb zn zp)) 1 100, tS zb zn (tE zb zn (tE zb zn zp))) (wrK zb zn (tE zb zn (tE zb zn (tE zb zn zp))), tS zb zn (tE zb zn (tE zb zn (tE zb zn zp)))))))),
   tE zb zn (tE zb zn (tE zb zn zp)), (upN zt.1 5 (zt.1 5 ||| 2 ^ (zb (tS zb zn zp) - 97)), upM (upM zt.2 4 (zb (tS zb zn zp) - 97) (tV zb zn (tE zb zn zp))) 5 (zb (tS zb zn zp) - 97) (tV zb zn (tE zb zn (tE zb zn zp)))))
def bkG (zc : Nat) : Bool := decide (zc = 120 ∨ (97 ≤ zc ∧ zc ≤ 102))
def bkC (zc : Nat) : Nat := if zc = 120 then 6 else zc - 97
def bkO (zb : Nat → Nat) (zn zp : Nat) : Bool := decide (tE zb zn zp = tS zb zn zp + 4) && bkG (zb (tS zb zn zp)) && bkG (zb (tS zb zn zp + 1)) && bkG (zb (tS zb zn zp + 2)) && bkG (zb (tS zb zn zp + 3))
def bkU (zb : Nat → Nat) (zg : Nat → Nat) (zs za : Nat) : Nat → Nat := upN (upN (upN (upN zg za (bkC (zb zs))) (za + 1) (bkC (zb (zs + 1)))) (za + 2) (bkC (zb (zs + 2)))) (za + 3) (bkC (zb (zs + 3)))
/-- rows of a pattern, from row zr on: so many are left -/
def bkF4 (zb : Nat → Nat) (zn : Nat) : Nat → Nat → Nat → (Nat → Nat) → (Nat × Nat) × Nat × (Nat → Nat)
  | 0, za, zp, zg => ((wrK zb zn zp, tS zb zn zp), zp, zg)
  | zf + 1, za, zp, zg => if tK zb zn zp = 2 then (if bkO zb zn zp then bkF4 zb zn zf (za + 4) (tE zb zn zp) (bkU zb zg (tS zb zn zp) za) else ((3, tS zb zn zp), zp, zg)) else ((if tK zb zn zp = 0 then 1 else 2, tS zb zn zp), zp, zg)
def bokB (zb : Nat → Nat) (zn zs zp : Nat) (zt : PSt) : LRs :=
  (ckN (if zt.1 2 = 4 then 5 else 0, zs) (bkF4 zb zn 4 (16 * zt.1 2) zp (zt.2 6)).1, (bkF4 zb zn 4 (16 * zt.1 2) zp (zt.2 6)).2.1, (upN zt.1 2 (zt.1 2 + 1), fun zk => if zk = 6 then (bkF4 zb zn 4 (16 * zt.1 2) zp (zt.2 6)).2.2 else zt.2 zk))
/-- which word a name is: 0 row, 1 patch, 2 gives, 3 apart, 4 quarry, 5 book; 6: none -/
def wdL : List (List Nat) := [[114, 111, 119], [112, 97, 116, 99, 104], [103, 105, 118, 101, 115], [97, 112, 97, 114, 116], [113, 117, 97, 114, 114, 121], [98, 111, 111, 107]]
def wdJ (zb : Nat → Nat) (zs : Nat) (zl : List Nat) (zk : Nat) : Bool := decide (zk = zl.length) && (List.range zk).all (fun zi => decide (zb (zs + zi) = zl.getD zi 0))
def wdF (zb : Nat → Nat) (zs zk : Nat) : Nat := if wdJ zb zs (wdL.getD 0 []) zk then 0 else if wdJ zb zs (wdL.getD 1 []) zk then 1 else if wdJ zb zs (wdL.getD 2 []) zk then 2 else if wdJ zb zs (wdL.getD 3 []) zk then 3 else if wdJ zb zs (wdL.getD 4 []) zk then 4 else if wdJ zb zs (wdL.getD 5 []) zk then 5 else 6
def linB (zb : Nat → Nat) (zn zp : Nat) (zt : PSt) : LRs :=
  if tK zb zn zp = 2 then
    (if wdF zb (tS zb zn zp) (tE zb zn zp - tS zb zn zp) = 0 then rowB zb zn (tS zb zn zp) (tE zb zn zp) zt
     else if wdF zb (tS zb zn zp) (tE zb zn zp - tS zb zn zp) = 1 then patB zb zn (tS zb zn zp) (tE zb zn zp) zt
     else if wdF zb (tS zb zn zp) (tE zb zn zp - tS zb zn zp) = 2 then givB zb zn (tE zb zn zp) zt
     else if wdF zb (tS zb zn zp) (tE zb zn zp - tS zb zn zp) = 3 then apaB zb zn (tS zb zn zp) (tE zb zn zp) zt
     else if wdF zb (tS zb zn zp) (tE zb zn zp - tS zb zn zp) = 4 then quaB zb zn (tE zb zn zp) zt
     else if wdF zb (tS zb zn zp) (tE zb zn zp - tS zb zn zp) = 5 then bokB zb zn (tS zb zn zp) (tE zb zn zp) zt
     else ((2, tS zb zn zp), zp, zt))
  else ((fkK zb zn zp 2, tS zb zn zp), zp, zt)
/-- a line: its body, then the sign -/
def linP (zb : Nat → Nat) (zn zp : Nat) (zt : PSt) : LRs :=
  (ckN (linB zb zn zp zt).1 (fkK zb zn (linB zb zn zp zt).2.1 4, tS zb zn (linB zb zn zp zt).2.1), tE zb zn (linB zb zn zp zt).2.1, (linB zb zn zp zt).2.2)
/-- lines until the end or a fault: the fault, how many lines, what is told -/
def txtF (zb : Nat → Nat) (zn : Nat) : Nat → Nat → Nat → PSt → (Nat × Nat) × Nat × PSt
  | 0, _, zl, zt => ((0, 0), zl, zt)
  | zf + 1, zp, zl, zt => if tK zb zn zp = 1 then ((0, 0), zl, zt) else if (linP zb zn zp zt).1.1 = 0 then txtF zb zn zf (linP zb zn zp zt).2.1 (zl + 1) (linP zb zn zp zt).2.2 else ((linP zb zn zp zt).1, zl, zt)
def txtP (zb : Nat → Nat) (zn : Nat) : (Nat × Nat) × Nat × PSt := txtF zb zn (zn + 1) 0 0 pS0
