def rwsN (zc : Nat → Nat) : Nat → Nat
  | 0 => 0
  | zt + 1 => rwsN zc zt ||| (if 0 < zc zt then 2 ^ zt else 0)
/-- the least of some rows; 13: none -/
def lsN (zc zl : Nat → Nat) (zs : Nat) : Nat → Nat
  | 0 => 13
  | zt + 1 => if zs.testBit zt = true ∧ (lsN zc zl zs zt = 13 ∨ zl zt * zc (lsN zc zl zs zt) < zl (lsN zc zl zs zt) * zc zt) then zt else lsN zc zl zs zt
def surN (zc zl : Nat → Nat) (zp za zb : Nat) : Bool := decide (zp * zc za * zc zb < 10 * (if zl za * zc zb < zl zb * zc za then zl zb * zc za - zl za * zc zb else zl za * zc zb - zl zb * zc za))
def hdN (zc zl : Nat → Nat) (zp zs zq : Nat) : Nat → Nat
  | 0 => 0
  | zt + 1 => hdN zc zl zp zs zq zt ||| (if zs.testBit zt = true ∧ surN zc zl zp zt zq = false then 2 ^ zt else 0)
def hndN (zc zl : Nat → Nat) (zp zm : Nat) (zv : Int32) : Nat → Nat → Nat → Int32
  | 0, _, _ => -1
  | zf + 1, zn, zs => if zs = 0 then (if zv = 0 then nI zn else -1) else if nI zn = zv - 10 then nI (hdN zc zl zp zs (lsN zc zl zs zm) zm) else hndN zc zl zp zm zv zf (zn + 1) (zs ^^^ hdN zc zl zp zs (lsN zc zl zs zm) zm)
theorem or_if_lt {zx zn : Nat} (h : zx < 2 ^ zn) (p : Prop) [Decidable p] : zx ||| (if p then 2 ^ zn else 0) < 2 ^ (zn + 1) := by
  have h1 : zx < 2 ^ (zn + 1) := Nat.lt_of_lt_of_le h (Nat.pow_le_pow_right (by decide) (Nat.le_succ zn))
  split
  · exact or_lt h1 (Nat.lt_succ_self zn)
  · rw [Nat.or_zero]; exact h1
theorem rws_lt (zc : Nat → Nat) : ∀ zn, rwsN zc zn < 2 ^ zn
  | 0 => Nat.one_pos
  | zn + 1 => or_if_lt (rws_lt zc zn) _
theorem hd_lt (zc zl : Nat → Nat) (zp zs zq : Nat) : ∀ zn, hdN zc zl zp zs zq zn < 2 ^ zn
  | 0 => Nat.one_pos
  | zn + 1 => or_if_lt (hd_lt zc zl zp zs zq zn) _
theorem or_if_bit (zx zn : Nat) (p : Prop) [Decidable p] (zi : Nat) : (zx ||| (if p then 2 ^ zn else 0)).testBit zi = (zx.testBit zi || (decide (zi = zn) && decide p)) := by
  by_cases h : p
  · rw [if_pos h, fb_bit_set, decide_eq_true h, Bool.and_true]
  · rw [if_neg h, Nat.or_zero, decide_eq_false h, Bool.and_false, Bool.or_false]
theorem hd_bit (zc zl : Nat → Nat) (zp zs zq : Nat) : ∀ zn zi, (hdN zc zl zp zs zq zn).testBit zi = (decide (zi < zn) && (zs.testBit zi && !surN zc zl zp zi zq))
  | 0, zi => by rw [hdN, Nat.zero_testBit, decide_eq_false (Nat.not_lt_zero zi)]; rfl
  | zn + 1, zi => by
    rw [hdN, or_if_bit, hd_bit zc zl zp zs zq zn zi]
    by_cases h : zi = zn
    · subst h
      rw [decide_eq_false (Nat.lt_irrefl zi), decide_eq_true (Nat.lt_succ_self zi), decide_eq_true rfl]
      cases zs.testBit zi <;> cases surN zc zl zp zi zq <;> rfl
    · rw [decide_eq_false h, Bool.false_and, Bool.or_false]
      congr 1
      exact decide_eq_decide.mpr (by omega)
theorem ls_ok (zc zl : Nat → Nat) (zs : Nat) : ∀ zn, (lsN zc zl zs zn < zn ∧ zs.testBit (lsN zc zl zs zn) = true) ∨ (lsN zc zl zs zn = 13 ∧ ∀ zt, zt < zn → zs.testBit zt = false)
  | 0 => Or.inr ⟨rfl, fun zt h => absurd h (Nat.not_lt_zero zt)⟩
  | zn + 1 => by
    have ih := ls_ok zc zl zs zn
    rw [lsN]
    by_cases hc : zs.testBit zn = true ∧ (lsN zc zl zs zn = 13 ∨ zl zn * zc (lsN zc zl zs zn) < zl (lsN zc zl zs zn) * zc zn)
    · rw [if_pos hc]
      exact Or.inl ⟨Nat.lt_succ_self zn, hc.1⟩
    · rw [if_neg hc]
      rcases ih with ih | ih
      · exact Or.inl ⟨Nat.lt_succ_of_lt ih.1, ih.2⟩
      · refine Or.inr ⟨ih.1, fun zt ht => ?_⟩
        by_cases e : zt = zn
        · subst e
          cases hb : zs.testBit zt
          · rfl
          · exact absurd ⟨hb, Or.inl ih.1⟩ hc
        · exact ih.2 zt (by omega)
theorem ls_lt {zc zl : Nat → Nat} {zs zm : Nat} (h0 : zs ≠ 0) (hs : zs < 2 ^ zm) : lsN zc zl zs zm < zm ∧ zs.testBit (lsN zc zl zs zm) = true := by
  rcases ls_ok zc zl zs zm with z | z
  · exact z
  · exfalso
    apply h0
    apply Nat.eq_of_testBit_eq
    intro zi
    rw [Nat.zero_testBit]
    rcases Nat.lt_or_ge zi zm with h | h
    · exact z.2 zi h
    · exact Nat.testBit_lt_two_pow (Nat.lt_of_lt_of_le hs (Nat.pow_le_pow_right (by decide) h))
theorem sur_self (zc zl : Nat → Nat) (zp zq : Nat) : surN zc zl zp zq zq = false := by
  unfold surN
  rw [if_neg (Nat.lt_irrefl _), Nat.sub_self]
  exact decide_eq_false (by omega)
theorem hd_ct {zc zl : Nat → Nat} {zp zs zm : Nat} (h0 : zs ≠ 0) (hs : zs < 2 ^ zm) : fb_ct (zs ^^^ hdN zc zl zp zs (lsN zc zl zs zm) zm).testBit zm + 1 ≤ fb_ct zs.testBit zm := by
  have h1 := ls_lt (zc := zc) (zl := zl) h0 hs
  have e := fb_ct_upd zs.testBit false h1.1
  rw [h1.2] at e
  have e3 : fb_ct (fun zk => if zk = lsN zc zl zs zm then false else zs.testBit zk) zm + 1 = fb_ct zs.testBit zm + 0 := e
  have e2 : fb_ct (zs ^^^ hdN zc zl zp zs (lsN zc zl zs zm) zm).testBit zm ≤ fb_ct (fun zk => if zk = lsN zc zl zs zm then false else zs.testBit zk) zm := by
    refine fb_ct_sub (fun zk hk hb => ?_)
    rw [Nat.testBit_xor, hd_bit, decide_eq_true hk, Bool.true_and] at hb
    by_cases hz : zk = lsN zc zl zs zm
    · rw [hz, h1.2, sur_self] at hb
      simp at hb
    · rw [if_neg hz]
      cases hq : zs.testBit zk
      · rw [hq] at hb; simp at hb
      · rfl
  omega
theorem xor_lt2 {za zb zm : Nat} (h1 : za < 2 ^ zm) (h2 : zb < 2 ^ zm) : za ^^^ zb < 2 ^ zm := Nat.xor_lt_two_pow h1 h2
theorem hd_less {zc zl : Nat → Nat} {zp zs zq zm : Nat} (hm : zm ≤ 12) (hs : zs < 2 ^ zm) : nI zs &&& (nI (hdN zc zl zp zs zq zm) ^^^ (-1)) = nI (zs ^^^ hdN zc zl zp zs zq zm) := by
  apply b_ext
  intro zi hi
  rw [b_and, b_xor, bt_nI hi, bt_nI hi, bt_nI hi, b_m1 zi hi, Bool.xor_true, Nat.testBit_xor, hd_bit]
  cases zs.testBit zi <;> cases decide (zi < zm) <;> cases surN zc zl zp zi zq <;> rfl
theorem if_or32 {zx zn : Nat} (hn : zn < 13) (p : Prop) [Decidable p] : nI zx ||| (if p then (1 : Int32) <<< (nI zn &&& 31) else 0) = nI (zx ||| (if p then 2 ^ zn else 0)) := by
  split
  · rw [sh_pow zn hn, fa_or]
  · exact fa_or zx 0
theorem if_or32t {zx zn : Nat} (hn : zn < 13) {p : Prop} [Decidable p] (h : p) : nI zx ||| (1 : Int32) <<< (nI zn &&& 31) = nI (zx ||| (if p then 2 ^ zn else 0)) := by
  rw [if_pos h, sh_pow zn hn, fa_or]
theorem if_or32f {zx zn : Nat} {p : Prop} [Decidable p] (h : ¬ p) : nI zx ||| 0 = nI (zx ||| (if p then 2 ^ zn else 0)) := by
  rw [if_neg h]; exact fa_or zx 0
theorem bit_1 {zs zt : Nat} (ht : zt < 32) : (nI zs >>> (nI zt &&& 31)) &&& 1 = 1 ↔ zs.testBit zt = true := by rw [sh1_1 _ ht, bt_nI ht]
theorem sub_neg {za zb : Nat} (h1 : za < 2 ^ 30) (h2 : zb < 2 ^ 30) : nI za - nI zb < 0 ↔ za < zb := by
  rw [i_lt, pk_sub_toInt h1 h2, i_z0]
  omega
theorem mul_b {za zb zA zB : Nat} (h1 : za ≤ zA) (h2 : zb ≤ zB) : za * zb ≤ zA * zB := Nat.mul_le_mul h1 h2
/-- sure, in numbers -/
theorem surI_N {h : AH} {zc zl : Nat → Nat} {zp za zb : Nat} (ha : za < 12) (hb : zb < 12) (hca : h.2.1 53 za = nI (zc za)) (hcb : h.2.1 53 zb = nI (zc zb)) (hla : h.2.1 54 za = nI (zl za)) (hlb : h.2.1 54 zb = nI (zl zb)) (hp : h.2.1 49 17 = nI zp) (bp : zp ≤ 99) (bca : zc za ≤ 99) (bcb : zc zb ≤ 99) (bla : zl za ≤ 999) (blb : zl zb ≤ 999) : surI h (nI za) (nI zb) = if surN zc zl zp za zb then 1 else 0 := by
  unfold surI
  rw [nI_clamp (by omega), nI_clamp (by omega), hca, hcb, hla, hlb, hp]
  have m1 := mul_b bla bcb
  have m2 := mul_b blb bca
  have m3 := mul_b (mul_b bp bca) bcb
  rw [pk_mul, pk_mul, pk_mul, pk_mul]
  have e : (if nI (zl za * zc zb) - nI (zl zb * zc za) < 0 then -(nI (zl za * zc zb) - nI (zl zb * zc za)) else nI (zl za * zc zb) - nI (zl zb * zc za)) = nI (if zl za * zc zb < zl zb * zc za then zl zb * zc za - zl za * zc zb else zl za * zc zb - zl zb * zc za) := by
    by_cases hz : zl za * zc zb < zl zb * zc za
    · rw [if_pos ((sub_neg (by omega) (by omega)).mpr hz), if_pos hz, ← pk_sub (by omega)]
      exact Int32.neg_sub
    · rw [if_neg (fun z => hz ((sub_neg (by omega) (by omega)).mp z)), if_neg hz, pk_sub (by omega)]
  rw [e]
  unfold surN
  have e2 : (10 : Int32) * nI (if zl za * zc zb < zl zb * zc za then zl zb * zc za - zl za * zc zb else zl za * zc zb - zl zb * zc za) = nI (10 * (if zl za * zc zb < zl zb * zc za then zl zb * zc za - zl za * zc zb else zl za * zc zb - zl zb * zc za)) := pk_mul 10 _
  rw [e2]
  generalize hd : (if zl za * zc zb < zl zb * zc za then zl zb * zc za - zl za * zc zb else zl za * zc zb - zl zb * zc za) = zd
  have bd : zd ≤ 999 * 99 := by
    rw [← hd]
    split <;> omega
  by_cases hz : zp * zc za * zc zb < 10 * zd
  · rw [if_pos (decide_eq_true hz), if_pos ((nI_ltI (by omega) (by omega)).mpr hz)]
  · rw [decide_eq_false hz, if_neg (fun z => hz ((nI_ltI (by omega) (by omega)).mp z))]
    rfl
