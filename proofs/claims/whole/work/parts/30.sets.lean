theorem bt_nI {zs zj : Nat} (hj : zj < 32) : bt (nI zs) zj = zs.testBit zj := by
  show (BitVec.ofNat 32 zs).getLsbD zj = _
  rw [BitVec.getLsbD_ofNat, decide_eq_true hj, Bool.true_and]
theorem bt_one : ∀ zi, zi < 32 → bt 1 zi = decide (zi = 0) := by decide +kernel
theorem sh1 (zx : Int32) {zt : Nat} (ht : zt < 32) : (zx >>> (nI zt &&& 31)) &&& 1 = if bt zx zt then 1 else 0 := by
  apply b_ext
  intro zi hi
  rw [b_and, b_sshr zt ht zx hi, bt_one zi hi]
  rcases Nat.eq_zero_or_pos zi with z | z
  · subst z
    rw [if_pos (by omega)]
    cases hb : bt zx zt <;> simp [hb, b_0, bt_one]
  · have e : decide (zi = 0) = false := by simp; omega
    rw [e, Bool.and_false]
    cases hb : bt zx zt
    · rw [if_neg (by decide), b_0]
    · rw [if_pos rfl, bt_one zi hi, e]
theorem sh1_0 (zx : Int32) {zt : Nat} (ht : zt < 32) : (zx >>> (nI zt &&& 31)) &&& 1 = 0 ↔ bt zx zt = false := by
  rw [sh1 zx ht]
  cases hb : bt zx zt <;> simp
theorem sh1_1 (zx : Int32) {zt : Nat} (ht : zt < 32) : (zx >>> (nI zt &&& 31)) &&& 1 = 1 ↔ bt zx zt = true := by
  rw [sh1 zx ht]
  cases hb : bt zx zt <;> simp
theorem sub_iff (zx : Int32) (zs : Nat) : zx &&& (nI zs ^^^ (-1)) = 0 ↔ ∀ zj, zj < 32 → bt zx zj = true → zs.testBit zj = true := by
  constructor
  · intro hz zj hj hb
    have e := congrArg (fun zq => bt zq zj) hz
    simp only [b_and, b_xor, b_0, bt_nI hj, b_m1 zj hj, hb, Bool.true_and, Bool.xor_true] at e
    simpa using e
  · intro hz
    apply b_ext
    intro zj hj
    rw [b_and, b_xor, bt_nI hj, b_m1 zj hj, b_0, Bool.xor_true]
    cases hb : bt zx zj
    · rfl
    · rw [hz zj hj hb]; rfl
theorem bt_sh {zt : Nat} (ht : zt < 32) : ∀ zi, zi < 32 → bt ((1 : Int32) <<< (nI zt &&& 31)) zi = decide (zi = zt) := by
  intro zi hi
  rw [b_shl zt ht 1 hi]
  rcases Nat.lt_or_ge zi zt with z | z
  · rw [decide_eq_false (by omega), Bool.false_and, decide_eq_false (by omega)]
  · rw [bt_one _ (by omega), decide_eq_true z, Bool.true_and]
    congr 1
    exact propext (by omega)
/-- one set with one thing more is a greater number -/
theorem or_gt {zs zt : Nat} (h : zs.testBit zt = false) : zs < zs ||| 2 ^ zt := by
  have h1 : zs ≤ zs ||| 2 ^ zt := Nat.left_le_or
  rcases Nat.lt_or_ge zs (zs ||| 2 ^ zt) with z | z
  · exact z
  · exfalso
    have e : zs ||| 2 ^ zt = zs := Nat.le_antisymm z h1
    have e2 := fb_bit_set zs zt zt
    rw [e, h] at e2
    simp at e2
/-- ways to go on from a set, by what may follow -/
def wN (zp : Nat → Nat → Bool) (zm : Nat) : Nat → Nat → Nat
  | 0, zs => if zs = 2 ^ zm - 1 then 1 else 0
  | zf + 1, zs => if zs = 2 ^ zm - 1 then 1 else fb_sm (fun zt => if zp zs zt then wN zp zm zf (zs ||| 2 ^ zt) else 0) zm
def wW (zp : Nat → Nat → Bool) (zm zs : Nat) : Nat := wN zp zm (2 ^ zm) zs
def pOK (zp : Nat → Nat → Bool) (zm : Nat) : Prop := ∀ zs zt, zs < 2 ^ zm → zt < zm → zp zs zt = true → zs.testBit zt = false
theorem wN_ind {zp : Nat → Nat → Bool} {zm : Nat} (hp : pOK zp zm) : ∀ zf zg zs, zs < 2 ^ zm → 2 ^ zm - 1 - zs ≤ zf → 2 ^ zm - 1 - zs ≤ zg → wN zp zm zf zs = wN zp zm zg zs := by
  intro zf
  induction zf with
  | zero =>
    intro zg zs h1 h2 h3
    have e : zs = 2 ^ zm - 1 := by omega
    cases zg with
    | zero => rfl
    | succ zg => rw [wN, wN, if_pos e, if_pos e]
  | succ zf ih =>
    intro zg zs h1 h2 h3
    cases zg with
    | zero =>
      have e : zs = 2 ^ zm - 1 := by omega
      rw [wN, wN, if_pos e, if_pos e]
    | succ zg =>
      rw [wN, wN]
      by_cases e : zs = 2 ^ zm - 1
      · rw [if_pos e, if_pos e]
      · rw [if_neg e, if_neg e]
        refine fb_sm_cong (fun zt ht => ?_)
        cases hb : zp zs zt
        · rfl
        · have h4 := or_gt (hp zs zt h1 ht hb)
          have h5 := or_lt h1 ht
          show wN zp zm zf (zs ||| 2 ^ zt) = wN zp zm zg (zs ||| 2 ^ zt)
          exact ih zg (zs ||| 2 ^ zt) h5 (by omega) (by omega)
theorem wW_full (zp : Nat → Nat → Bool) (zm : Nat) : wW zp zm (2 ^ zm - 1) = 1 := by
  unfold wW
  cases h : 2 ^ zm with
  | zero => have := Nat.two_pow_pos zm; omega
  | succ zn => rw [wN, if_pos (by rw [h])]
theorem wW_eq {zp : Nat → Nat → Bool} {zm : Nat} (hp : pOK zp zm) {zs : Nat} (hs : zs < 2 ^ zm - 1) : wW zp zm zs = fb_sm (fun zt => if zp zs zt then wW zp zm (zs ||| 2 ^ zt) else 0) zm := by
  have h0 := Nat.two_pow_pos zm
  rw [wW, wN_ind hp (2 ^ zm) (2 ^ zm - 1 - zs - 1 + 1) zs (by omega) (by omega) (by omega), wN, if_neg (by omega)]
  refine fb_sm_cong (fun zt ht => ?_)
  cases hb : zp zs zt
  · rfl
  · have h4 := or_gt (hp zs zt (by omega) ht hb)
    have h5 := or_lt (show zs < 2 ^ zm by omega) ht
    show wN zp zm _ (zs ||| 2 ^ zt) = wW zp zm (zs ||| 2 ^ zt)
    exact wN_ind hp _ _ _ h5 (by omega) (by omega)
/-- how many are wanting -/
def msN (zm zs : Nat) : Nat := fb_ct (fun zt => !zs.testBit zt) zm
theorem ms_or {zm zs zt : Nat} (ht : zt < zm) (h : zs.testBit zt = false) : msN zm (zs ||| 2 ^ zt) + 1 = msN zm zs := by
  have e := fb_ct_upd (fun zk => !zs.testBit zk) false ht
  rw [h] at e
  have e2 : fb_ct (fun zk => if zk = zt then false else !zs.testBit zk) zm = msN zm (zs ||| 2 ^ zt) := by
    refine fb_ct_cong (fun zk hk => ?_)
    rw [fb_bit_set]
    by_cases hz : zk = zt
    · simp [hz]
    · simp [hz]
  rw [e2] at e
  unfold msN
  unfold msN at e
  simpa using e
def facN : Nat → Nat
  | 0 => 1
  | zn + 1 => (zn + 1) * facN zn
theorem fac_pos : ∀ zn, 1 ≤ facN zn
  | 0 => Nat.le_refl 1
  | zn + 1 => Nat.mul_pos (Nat.succ_pos zn) (fac_pos zn)
theorem sm_if_le (zq : Nat → Bool) (zf : Nat → Nat) (zc : Nat) : ∀ zn, (∀ zt, zt < zn → zq zt = true → zf zt ≤ zc) → fb_sm (fun zt => if zq zt then zf zt else 0) zn ≤ fb_ct zq zn * zc
  | 0, _ => by simp [fb_sm, fb_ct]
  | zn + 1, h => by
    have ih := sm_if_le zq zf zc zn (fun zt ht => h zt (Nat.lt_succ_of_lt ht))
    rw [fb_sm_succ, fb_ct_succ]
    cases hb : zq zn
    · simp; exact ih
    · have := h zn (Nat.lt_succ_self zn) hb
      simp
      rw [Nat.add_mul, Nat.one_mul]
      omega
theorem wW_le {zp : Nat → Nat → Bool} {zm : Nat} (hp : pOK zp zm) : ∀ zn zs, zs < 2 ^ zm → 2 ^ zm - 1 - zs ≤ zn → wW zp zm zs ≤ facN (msN zm zs) := by
  intro zn
  induction zn with
  | zero =>
    intro zs h1 h2
    have e : zs = 2 ^ zm - 1 := by omega
    rw [e, wW_full]
    exact fac_pos _
  | succ zn ih =>
    intro zs h1 h2
    by_cases e : zs = 2 ^ zm - 1
    · rw [e, wW_full]
      exact fac_pos _
    · rw [wW_eq hp (by omega)]
      cases hm : msN zm zs with
      | zero =>
        exfalso
        have hz := fb_ct_zero.mp hm
        apply e
        apply Nat.eq_of_testBit_eq
        intro zi
        rw [Nat.testBit_two_pow_sub_one]
        rcases Nat.lt_or_ge zi zm with z | z
        · have := hz zi z
          simp at this
          rw [this, decide_eq_true z]
        · rw [decide_eq_false (by omega)]
          exact Nat.testBit_lt_two_pow (Nat.lt_of_lt_of_le h1 (Nat.pow_le_pow_right (by decide) z))
      | succ zk =>
        refine Nat.le_trans (sm_if_le (zp zs) (fun zt => wW zp zm (zs ||| 2 ^ zt)) (facN zk) zm (fun zt ht hb => ?_)) ?_
        · have h3 := hp zs zt h1 ht hb
          have h4 := or_gt h3
          have h5 := or_lt h1 ht
          have h6 := ms_or ht h3
          have h7 := ih (zs ||| 2 ^ zt) h5 (by omega)
          rw [show msN zm (zs ||| 2 ^ zt) = zk by omega] at h7
          exact h7
        · have h8 : fb_ct (zp zs) zm ≤ msN zm zs := fb_ct_sub (fun zt ht hb => by rw [hp zs zt h1 ht hb]; rfl)
          rw [facN]
          exact Nat.mul_le_mul_right _ (by omega)
theorem ms_le (zm zs : Nat) : msN zm zs ≤ zm := fb_ct_le _ _
theorem fac_mono {za zb : Nat} (h : za ≤ zb) : facN za ≤ facN zb := by
  induction zb with
  | zero => rw [Nat.le_zero.mp h]; exact Nat.le_refl _
  | succ zb ih =>
    rcases Nat.lt_or_ge zb za with z | z
    · rw [show za = zb + 1 by omega]; exact Nat.le_refl _
    · refine Nat.le_trans (ih z) ?_
      rw [facN]
      exact Nat.le_mul_of_pos_left _ (Nat.succ_pos _)
theorem wW_12 {zp : Nat → Nat → Bool} {zm zs : Nat} (hp : pOK zp zm) (hm : zm ≤ 12) (hs : zs < 2 ^ zm) : wW zp zm zs ≤ 479001600 :=
  Nat.le_trans (wW_le hp _ zs hs (Nat.le_refl _)) (Nat.le_trans (fac_mono (Nat.le_trans (ms_le _ _) hm)) (by decide))
theorem sm_pos {zf : Nat → Nat} : ∀ {zn zi : Nat}, zi < zn → 1 ≤ zf zi → 1 ≤ fb_sm zf zn := by
  intro zn zi h1 h2
  have := fb_sm_part zf h1
  omega
theorem wW_pos {zp : Nat → Nat → Bool} {zm : Nat} (hp : pOK zp zm) (hx : ∀ zs, zs < 2 ^ zm - 1 → ∃ zt, zt < zm ∧ zp zs zt = true) : ∀ zn zs, zs < 2 ^ zm → 2 ^ zm - 1 - zs ≤ zn → 1 ≤ wW zp zm zs := by
  intro zn
  induction zn with
  | zero =>
    intro zs h1 h2
    rw [show zs = 2 ^ zm - 1 by omega, wW_full]
    exact Nat.le_refl 1
  | succ zn ih =>
    intro zs h1 h2
    by_cases e : zs = 2 ^ zm - 1
    · rw [e, wW_full]
      exact Nat.le_refl 1
    · rw [wW_eq hp (by omega)]
      obtain ⟨zt, ht, hb⟩ := hx zs (by omega)
      have h3 := hp zs zt h1 ht hb
      have h4 := or_gt h3
      have h5 := or_lt h1 ht
      have h7 := ih (zs ||| 2 ^ zt) h5 (by omega)
      refine sm_pos ht ?_
      show 1 ≤ if zp zs zt = true then wW zp zm (zs ||| 2 ^ zt) else 0
      rw [if_pos hb]
      exact h7
/-- the model's table -/
def fopB (bf : Nat → Int32) (za zb : Int32) (zs zt : Nat) : Bool := decide ((nI zs >>> (nI zt &&& 31)) &&& 1 = 0 ∧ (bf zt ||| (if nI zt = zb then 1 <<< (za &&& 31) else 0)) &&& (nI zs ^^^ (-1)) = 0)
theorem fop_ok (bf : Nat → Int32) (za zb : Int32) {zm : Nat} (hm : zm ≤ 12) : pOK (fopB bf za zb) zm := by
  intro zs zt hs ht hb
  have h1 := (of_decide_eq_true hb).1
  rw [sh1_0 _ (by omega), bt_nI (by omega)] at h1
  exact h1
theorem wyT_out (bf : Nat → Int32) (za zb : Int32) (zs : Nat) (zf : Nat → Int64) {zi : Nat} (h : zi ≠ zs) : ∀ zt, wyT bf za zb zs zf zt zi = zf zi
  | 0 => by rw [wyT]; exact if_neg h
  | zt + 1 => by
    rw [wyT]
    by_cases hc : (nI zs >>> (nI zt &&& 31)) &&& 1 = 0 ∧ (bf zt ||| (if nI zt = zb then 1 <<< (za &&& 31) else 0)) &&& (nI zs ^^^ (-1)) = 0
    · rw [if_pos hc]
      exact (if_neg h).trans (wyT_out bf za zb zs zf h zt)
    · rw [if_neg hc]
      exact wyT_out bf za zb zs zf h zt
theorem wyT_in {bf : Nat → Int32} {za zb : Int32} {zm zs : Nat} {zf : Nat → Int64} (hm : zm ≤ 12) (hs : zs < 2 ^ zm - 1) (hf : ∀ zt, zt < zm → fopB bf za zb zs zt = true → zf (zs ||| 2 ^ zt) = lN (wW (fopB bf za zb) zm (zs ||| 2 ^ zt))) : ∀ zt, zt ≤ zm → wyT bf za zb zs zf zt zs = lN (fb_sm (fun zk => if fopB bf za zb zs zk then wW (fopB bf za zb) zm (zs ||| 2 ^ zk) else 0) zt)
  | 0, _ => by rw [wyT]; exact if_pos rfl
  | zt + 1, h => by
    have ih := wyT_in hm hs hf zt (by omega)
    rw [wyT, fb_sm_succ]
    by_cases hc : (nI zs >>> (nI zt &&& 31)) &&& 1 = 0 ∧ (bf zt ||| (if nI zt = zb then 1 <<< (za &&& 31) else 0)) &&& (nI zs ^^^ (-1)) = 0
    · rw [if_pos hc]
      have hb : fopB bf za zb zs zt = true := decide_eq_true hc
      have h3 := or_gt (fop_ok bf za zb hm zs zt (by omega) (by omega) hb)
      refine (if_pos rfl).trans ?_
      rw [ih, wyT_out bf za zb zs zf (by omega), hf zt (by omega) hb, if_pos hb, lN_add]
    · rw [if_neg hc]
      have hb : fopB bf za zb zs zt = false := decide_eq_false hc
      rw [hb, ih]
      rfl
theorem wyS_eq (bf : Nat → Int32) (za zb : Int32) {zm : Nat} (hm : zm ≤ 12) (zf : Nat → Int64) : ∀ zj, zj ≤ 2 ^ zm - 1 → ∀ zs, zs < 2 ^ zm → 2 ^ zm - 1 - zj ≤ zs → wyS bf za zb zm zf zj zs = lN (wW (fopB bf za zb) zm zs)
  | 0, _, zs, h1, h2 => by
    have e : zs = 2 ^ zm - 1 := by omega
    rw [wyS, e, vp_updL, if_pos rfl, wW_full]
    rfl
  | zj + 1, hj, zs, h1, h2 => by
    have ih := wyS_eq bf za zb hm zf zj (by omega)
    rw [wyS]
    by_cases e : zs = 2 ^ zm - 2 - zj
    · rw [e, wW_eq (fop_ok bf za zb hm) (by omega)]
      refine wyT_in hm (by omega) (fun zt ht hb => ?_) zm (Nat.le_refl _)
      have h3 := or_gt (fop_ok bf za zb hm _ zt (by omega) ht hb)
      have h5 := or_lt (show 2 ^ zm - 2 - zj < 2 ^ zm by omega) ht
      exact ih _ h5 (by omega)
    · rw [wyT_out _ _ _ _ _ e, ih zs h1 (by omega)]
theorem ways_eq (bf : Nat → Int32) (za zb : Int32) {zm : Nat} (hm : zm ≤ 12) (zf : Nat → Int64) {zs : Nat} (hs : zs < 2 ^ zm) : wyS bf za zb zm zf (2 ^ zm - 1) zs = lN (wW (fopB bf za zb) zm zs) :=
  wyS_eq bf za zb hm zf _ (Nat.le_refl _) zs hs (by omega)
