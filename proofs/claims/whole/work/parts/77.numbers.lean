/-- ways to the sets, as numbers: from one set on; from all below -/
def nwT (zp : Nat → Nat → Bool) (zs : Nat) (zf : Nat → Nat) : Nat → Nat → Nat
  | 0, zu => zf zu
  | zt + 1, zu => if zu = zs ||| 2 ^ zt ∧ zp zs zt = true then nwT zp zs zf zt zu + zf zs else nwT zp zs zf zt zu
def nwS (zp : Nat → Nat → Bool) (zm : Nat) : Nat → Nat → Nat
  | 0, zu => if zu = 0 then 1 else 0
  | zs + 1, zu => nwT zp zs (nwS zp zm zs) zm zu
theorem nwT_low {zp : Nat → Nat → Bool} {zm zs : Nat} (hp : pOK zp zm) (hs : zs < 2 ^ zm) (zf : Nat → Nat) {zu : Nat} (hu : zu ≤ zs) : ∀ zt, zt ≤ zm → nwT zp zs zf zt zu = zf zu
  | 0, _ => by rw [nwT]
  | zt + 1, ht => by
    rw [nwT, if_neg (fun z => by have z1 := or_gt (hp zs zt hs (by omega) z.2); omega)]
    exact nwT_low hp hs zf hu zt (by omega)
theorem nwS_low {zp : Nat → Nat → Bool} {zm : Nat} (hp : pOK zp zm) (zu : Nat) : ∀ zn, zu + zn ≤ 2 ^ zm → nwS zp zm (zu + zn) zu = nwS zp zm zu zu
  | 0, _ => rfl
  | zn + 1, hn => by
    rw [show zu + (zn + 1) = (zu + zn) + 1 by omega, nwS, nwT_low hp (by omega) _ (by omega) zm (Nat.le_refl _)]
    exact nwS_low hp zu zn (by omega)
def dW (zp : Nat → Nat → Bool) (zm zs : Nat) : Nat := nwS zp zm (2 ^ zm) zs
theorem dW_at {zp : Nat → Nat → Bool} {zm zs : Nat} (hp : pOK zp zm) (hs : zs < 2 ^ zm) : dW zp zm zs = nwS zp zm zs zs := by
  have z := nwS_low hp zs (2 ^ zm - zs) (by omega)
  rw [show zs + (2 ^ zm - zs) = 2 ^ zm by omega] at z
  exact z
theorem nwT_sum {zp : Nat → Nat → Bool} {zm zs : Nat} (hp : pOK zp zm) (hs : zs < 2 ^ zm) (zf zX : Nat → Nat) : ∀ zt, zt ≤ zm → fb_sm (fun zu => if zs + 1 ≤ zu then nwT zp zs zf zt zu * zX zu else 0) (2 ^ zm) = fb_sm (fun zu => if zs + 1 ≤ zu then zf zu * zX zu else 0) (2 ^ zm) + zf zs * fb_sm (fun zk => if zp zs zk = true then zX (zs ||| 2 ^ zk) else 0) zt
  | 0, _ => by
    simp only [nwT]
    rw [show fb_sm (fun zk => if zp zs zk = true then zX (zs ||| 2 ^ zk) else 0) 0 = 0 from rfl, Nat.mul_zero]
    exact (Nat.add_zero _).symm
  | zt + 1, ht => by
    have ih := nwT_sum hp hs zf zX zt (by omega)
    rw [fb_sm_succ]
    by_cases hb : zp zs zt = true
    · have z1 := or_gt (hp zs zt hs (by omega) hb)
      have z2 := fb_sm_upd (fun zu => if zs + 1 ≤ zu then nwT zp zs zf zt zu * zX zu else 0) ((nwT zp zs zf zt (zs ||| 2 ^ zt) + zf zs) * zX (zs ||| 2 ^ zt)) (or_lt hs (show zt < zm by omega))
      rw [if_pos (show zs + 1 ≤ zs ||| 2 ^ zt by omega), ih, Nat.add_mul] at z2
      rw [if_pos hb, Nat.mul_add]
      have z3 : fb_sm (fun zu => if zs + 1 ≤ zu then nwT zp zs zf (zt + 1) zu * zX zu else 0) (2 ^ zm) = fb_sm (fun zk => if zk = zs ||| 2 ^ zt then nwT zp zs zf zt (zs ||| 2 ^ zt) * zX (zs ||| 2 ^ zt) + zf zs * zX (zs ||| 2 ^ zt) else if zs + 1 ≤ zk then nwT zp zs zf zt zk * zX zk else 0) (2 ^ zm) := fb_sm_cong (fun zu _ => by
        simp only [nwT]
        by_cases e : zu = zs ||| 2 ^ zt
        · subst e
          rw [if_pos (show zs + 1 ≤ zs ||| 2 ^ zt by omega), if_pos ⟨rfl, hb⟩, if_pos rfl, Nat.add_mul]
        · rw [if_neg (fun z : zu = zs ||| 2 ^ zt ∧ zp zs zt = true => e z.1), if_neg e])
      rw [z3]
      omega
    · rw [if_neg hb]
      refine Eq.trans ?_ ih
      refine fb_sm_cong (fun zu _ => ?_)
      simp only [nwT]
      rw [if_neg (fun z : zu = zs ||| 2 ^ zt ∧ zp zs zt = true => hb z.2)]
/-- what the ways so far weigh -/
def pS (zp : Nat → Nat → Bool) (zm : Nat) (zX : Nat → Nat) (zs : Nat) : Nat := fb_sm (fun zu => if zs ≤ zu then nwS zp zm zs zu * zX zu else 0) (2 ^ zm)
theorem pS_next {zp : Nat → Nat → Bool} {zm zs : Nat} (hp : pOK zp zm) (hs : zs < 2 ^ zm) (zX : Nat → Nat) : pS zp zm zX (zs + 1) + dW zp zm zs * zX zs = pS zp zm zX zs + dW zp zm zs * fb_sm (fun zk => if zp zs zk = true then zX (zs ||| 2 ^ zk) else 0) zm := by
  rw [dW_at hp hs]
  unfold pS
  have z0 := nwT_sum hp hs (nwS zp zm zs) zX zm (Nat.le_refl _)
  simp only [nwS]
  rw [z0]
  have z2 := fb_sm_upd (fun zu => if zs ≤ zu then nwS zp zm zs zu * zX zu else 0) 0 hs
  rw [if_pos (Nat.le_refl _)] at z2
  have z3 : fb_sm (fun zu => if zs + 1 ≤ zu then nwS zp zm zs zu * zX zu else 0) (2 ^ zm) = fb_sm (fun zk => if zk = zs then 0 else if zs ≤ zk then nwS zp zm zs zk * zX zk else 0) (2 ^ zm) := fb_sm_cong (fun zu _ => by
    by_cases e : zu = zs
    · rw [if_pos e, if_neg (by omega)]
    · rw [if_neg e]
      by_cases e2 : zs ≤ zu
      · rw [if_pos e2, if_pos (by omega)]
      · rw [if_neg e2, if_neg (by omega)])
  rw [z3]
  omega
theorem pS_0 (zp : Nat → Nat → Bool) (zm : Nat) (zX : Nat → Nat) : pS zp zm zX 0 = zX 0 := by
  unfold pS
  have z2 := fb_sm_upd (fun _ => 0) (zX 0) (Nat.two_pow_pos zm)
  rw [fb_sm_const, Nat.mul_zero, Nat.zero_add, Nat.add_zero] at z2
  rw [← z2]
  refine fb_sm_cong (fun zu _ => ?_)
  rw [if_pos (Nat.zero_le _), nwS]
  by_cases e : zu = 0
  · subst e
    rw [if_pos rfl, if_pos rfl, Nat.one_mul]
  · rw [if_neg e, if_neg e, Nat.zero_mul]
theorem pS_end (zp : Nat → Nat → Bool) (zm : Nat) (zX : Nat → Nat) : pS zp zm zX (2 ^ zm) = 0 := by
  unfold pS
  have z1 : fb_sm (fun zu => if 2 ^ zm ≤ zu then nwS zp zm (2 ^ zm) zu * zX zu else 0) (2 ^ zm) = fb_sm (fun _ => 0) (2 ^ zm) := fb_sm_cong (fun zu h => if_neg (by omega))
  rw [z1, fb_sm_const, Nat.mul_zero]
theorem fac_sum {zp : Nat → Nat → Bool} {zm zs : Nat} (hp : pOK zp zm) (hs : zs < 2 ^ zm) : fb_sm (fun zk => if zp zs zk = true then facN (msN zm (zs ||| 2 ^ zk)) else 0) zm ≤ facN (msN zm zs) := by
  cases hm : msN zm zs with
  | zero =>
    have hz := fb_ct_zero.mp hm
    have z1 : fb_sm (fun zk => if zp zs zk = true then facN (msN zm (zs ||| 2 ^ zk)) else 0) zm = fb_sm (fun _ => 0) zm := fb_sm_cong (fun zk hk => if_neg (fun z => by
      have z1 := hp zs zk hs hk z
      have z2 := hz zk hk
      rw [z1] at z2
      cases z2))
    rw [z1, fb_sm_const, Nat.mul_zero]
    exact Nat.zero_le _
  | succ zk =>
    refine Nat.le_trans (sm_if_le (zp zs) (fun zt => facN (msN zm (zs ||| 2 ^ zt))) (facN zk) zm (fun zt ht hb => ?_)) ?_
    · have h6 := ms_or ht (hp zs zt hs ht hb)
      rw [show msN zm (zs ||| 2 ^ zt) = zk by omega]
      exact Nat.le_refl _
    · have h8 : fb_ct (zp zs) zm ≤ msN zm zs := fb_ct_sub (fun zt ht hb => by rw [hp zs zt hs ht hb]; rfl)
      rw [facN]
      exact Nat.mul_le_mul_right _ (by omega)
theorem pS_fac {zp : Nat → Nat → Bool} {zm : Nat} (hp : pOK zp zm) : ∀ zs, zs ≤ 2 ^ zm → pS zp zm (fun zu => facN (msN zm zu)) zs ≤ facN zm
  | 0, _ => by rw [pS_0, ms_zero]; exact Nat.le_refl _
  | zs + 1, hs => by
    have ih := pS_fac hp zs (by omega)
    have z1 := pS_next hp (show zs < 2 ^ zm by omega) (fun zu => facN (msN zm zu))
    have z2 := Nat.mul_le_mul_left (dW zp zm zs) (fac_sum hp (show zs < 2 ^ zm by omega))
    omega
theorem dW_12 {zp : Nat → Nat → Bool} {zm zs : Nat} (hp : pOK zp zm) (hm : zm ≤ 12) (hs : zs < 2 ^ zm) : dW zp zm zs ≤ 479001600 := by
  have z1 := pS_fac hp zs (by omega)
  have z2 := fb_sm_part (fun zu => if zs ≤ zu then nwS zp zm zs zu * facN (msN zm zu) else 0) hs
  rw [if_pos (Nat.le_refl _)] at z2
  have z3 : nwS zp zm zs zs * facN (msN zm zs) ≤ facN zm := Nat.le_trans (Nat.le_trans (Nat.le_add_left _ _) z2) z1
  have z4 := Nat.le_mul_of_pos_right (nwS zp zm zs zs) (fac_pos (msN zm zs))
  rw [dW_at hp hs]
  exact Nat.le_trans (Nat.le_trans z4 z3) (Nat.le_trans (fac_mono hm) (by decide))
theorem nwT_mono (zp : Nat → Nat → Bool) (zs : Nat) (zf : Nat → Nat) (zu : Nat) : ∀ zt, zf zu ≤ nwT zp zs zf zt zu
  | 0 => by rw [nwT]; exact Nat.le_refl _
  | zt + 1 => by
    have ih := nwT_mono zp zs zf zu zt
    rw [nwT]
    by_cases e : zu = zs ||| 2 ^ zt ∧ zp zs zt = true
    · rw [if_pos e]; omega
    · rw [if_neg e]; exact ih
theorem nwT_get (zp : Nat → Nat → Bool) (zs : Nat) (zf : Nat → Nat) {zk : Nat} (hb : zp zs zk = true) : ∀ zt, zk < zt → zf zs ≤ nwT zp zs zf zt (zs ||| 2 ^ zk)
  | 0, h => absurd h (Nat.not_lt_zero _)
  | zt + 1, h => by
    rw [nwT]
    by_cases e : zk = zt
    · subst e
      rw [if_pos ⟨rfl, hb⟩]; omega
    · have ih := nwT_get zp zs zf hb zt (by omega)
      by_cases e2 : zs ||| 2 ^ zk = zs ||| 2 ^ zt ∧ zp zs zt = true
      · rw [if_pos e2]; omega
      · rw [if_neg e2]; exact ih
theorem nwS_mono (zp : Nat → Nat → Bool) (zm zu zs : Nat) : ∀ zn, nwS zp zm zs zu ≤ nwS zp zm (zs + zn) zu
  | 0 => Nat.le_refl _
  | zn + 1 => by
    rw [show zs + (zn + 1) = (zs + zn) + 1 by omega, nwS]
    exact Nat.le_trans (nwS_mono zp zm zu zs zn) (nwT_mono _ _ _ _ _)
theorem dW_next {zp : Nat → Nat → Bool} {zm zs zt : Nat} (hp : pOK zp zm) (hs : zs < 2 ^ zm) (ht : zt < zm) (hb : zp zs zt = true) : dW zp zm zs ≤ dW zp zm (zs ||| 2 ^ zt) := by
  rw [dW_at hp hs]
  unfold dW
  have z1 := nwT_get zp zs (nwS zp zm zs) hb zm ht
  have z2 := nwS_mono zp zm (zs ||| 2 ^ zt) (zs + 1) (2 ^ zm - (zs + 1))
  rw [show zs + 1 + (2 ^ zm - (zs + 1)) = 2 ^ zm by omega, nwS] at z2
  omega
theorem dW_0 {zp : Nat → Nat → Bool} {zm : Nat} (hp : pOK zp zm) : dW zp zm 0 = 1 := by
  rw [dW_at hp (Nat.two_pow_pos zm), nwS, if_pos rfl]
/-- the class's first table -/
theorem fwT_n {bf zf : Nat → Int32} {zg : Nat → Nat} {zm zs : Nat} (hm : zm ≤ 12) (h : ∀ zu, zu < 2 ^ zm → zf zu = nI (zg zu)) (hs : zs < 2 ^ zm) : ∀ zt, zt ≤ zm → ∀ zu, zu < 2 ^ zm → fwT bf zs zf zt zu = nI (nwT (fopB bf 0 (-4)) zs zg zt zu)
  | 0, _, zu, hu => by rw [fwT, nwT]; exact h zu hu
  | zt + 1, ht, zu, hu => by
    have ih := fwT_n (bf := bf) hm h hs zt (by omega)
    rw [fwT, nwT]
    by_cases hb : fopB bf 0 (-4) zs zt = true
    · rw [if_pos hb]
      by_cases e : zu = zs ||| 2 ^ zt
      · refine (if_pos e).trans ?_
        rw [if_pos ⟨e, hb⟩, ← e, ih zu hu, fwT_s _ _ _ _ (by omega), h zs hs, nI_add]
      · refine (if_neg e).trans ?_
        rw [if_neg (fun z => e z.1)]
        exact ih zu hu
    · rw [if_neg hb, if_neg (fun z => hb z.2)]
      exact ih zu hu
theorem nwT_zero (zp : Nat → Nat → Bool) (zs : Nat) (zf : Nat → Nat) (hz : zf zs = 0) (zu : Nat) : ∀ zt, nwT zp zs zf zt zu = zf zu
  | 0 => by rw [nwT]
  | zt + 1 => by
    rw [nwT, hz, Nat.add_zero]
    by_cases e : zu = zs ||| 2 ^ zt ∧ zp zs zt = true
    · rw [if_pos e]; exact nwT_zero zp zs zf hz zu zt
    · rw [if_neg e]; exact nwT_zero zp zs zf hz zu zt
theorem fwS_n (bf zf : Nat → Int32) {zm : Nat} (hm : zm ≤ 12) : ∀ zs, zs ≤ 2 ^ zm → ∀ zu, zu < 2 ^ zm → fwS bf zm (upd (zrF zf (2 ^ zm)) 0 1) zs zu = nI (nwS (fopB bf 0 (-4)) zm zs zu)
  | 0, _, zu, hu => by
    rw [fwS, nwS]
    by_cases e : zu = 0
    · rw [if_pos e]; exact if_pos e
    · rw [if_neg e]
      refine (if_neg e).trans ?_
      rw [zr_eq, if_pos hu]
      rfl
  | zs + 1, hs, zu, hu => by
    have ih := fwS_n bf zf hm zs (by omega)
    have hp := fop_ok bf 0 (-4) hm
    have z1 := dW_12 hp hm (show zs < 2 ^ zm by omega)
    rw [dW_at hp (by omega)] at z1
    rw [fwS, nwS]
    by_cases hc : fwS bf zm (upd (zrF zf (2 ^ zm)) 0 1) zs zs ≤ 0
    · rw [if_pos hc, ih zu hu]
      rw [ih zs (by omega)] at hc
      rw [nwT_zero _ _ _ (nI_s0 (by omega) hc)]
    · rw [if_neg hc]
      exact fwT_n hm ih (by omega) zm (Nat.le_refl _) zu hu
theorem cwA_n (bf zf : Nat → Int32) {zm zs : Nat} (hm : zm ≤ 12) (hs : zs < 2 ^ zm) : cwA bf zm zf zs = nI (dW (fopB bf 0 (-4)) zm zs) := fwS_n bf zf hm _ (Nat.le_refl _) zs hs
/-- the class's second table -/
theorem bwT_out (bf : Nat → Int32) (zs : Nat) (zf : Nat → Int32) {zi : Nat} (h : zi ≠ zs) : ∀ zt, bwT bf zs zf zt zi = zf zi
  | 0 => by rw [bwT]
  | zt + 1 => by
    rw [bwT]
    by_cases hc : fopB bf 0 (-4) zs zt = true
    · rw [if_pos hc]
      exact (if_neg h).trans (bwT_out bf zs zf h zt)
    · rw [if_neg hc]
      exact bwT_out bf zs zf h zt
theorem bwT_in {bf : Nat → Int32} {zm zs : Nat} {zf : Nat → Int32} (hm : zm ≤ 12) (h0 : zf zs = 0) (hf : ∀ zt, zt < zm → fopB bf 0 (-4) zs zt = true → zf (zs ||| 2 ^ zt) = nI (wW (fopB bf 0 (-4)) zm (zs ||| 2 ^ zt))) : ∀ zt, zt ≤ zm → bwT bf zs zf zt zs = nI (fb_sm (fun zk => if fopB bf 0 (-4) zs zk then wW (fopB bf 0 (-4)) zm (zs ||| 2 ^ zk) else 0) zt)
  | 0, _ => by rw [bwT]; exact h0
  | zt + 1, ht => by
    have ih := bwT_in hm h0 hf zt (by omega)
    rw [bwT, fb_sm_succ]
    by_cases hc : fopB bf 0 (-4) zs zt = true
    · rw [if_pos hc, if_pos hc]
      refine (if_pos rfl).trans ?_
      rw [ih, bwT_out bf zs zf (fun z => fop_no (by omega) hc z.symm) zt, hf zt (by omega) hc, nI_add]
    · rw [if_neg hc, if_neg hc]
      exact ih
theorem bwS_n (bf zf zg : Nat → Int32) {zm : Nat} (hm : zm ≤ 12) : ∀ zj, zj ≤ 2 ^ zm - 1 → ∀ zs, zs < 2 ^ zm → (zs < 2 ^ zm - 1 - zj → bwS bf zm (cwA bf zm zf) (upd (zrF zg (2 ^ zm)) (2 ^ zm - 1) 1) zj zs = 0) ∧ (2 ^ zm - 1 - zj ≤ zs → 1 ≤ dW (fopB bf 0 (-4)) zm zs → bwS bf zm (cwA bf zm zf) (upd (zrF zg (2 ^ zm)) (2 ^ zm - 1) 1) zj zs = nI (wW (fopB bf 0 (-4)) zm zs))
  | 0, _, zs, hs => by
    rw [bwS]
    refine ⟨fun z => ?_, fun z _ => ?_⟩
    · refine (if_neg (show ¬ zs = 2 ^ zm - 1 by omega)).trans ?_
      rw [zr_eq, if_pos hs]
    · have e : zs = 2 ^ zm - 1 := by omega
      refine (if_pos e).trans ?_
      rw [e, wW_full]
      rfl
  | zj + 1, hj, zs, hs => by
    have ih := bwS_n bf zf zg hm zj (by omega)
    have hp := fop_ok bf 0 (-4) hm
    rw [bwS]
    have hd : ∃ zq, zq = 2 ^ zm - 2 - zj ∧ zq < 2 ^ zm - 1 := ⟨_, rfl, by omega⟩
    obtain ⟨zq, hq, hq2⟩ := hd
    rw [← hq, cwA_n bf zf hm (by omega)]
    have z1 := dW_12 hp hm (show zq < 2 ^ zm by omega)
    by_cases hc : nI (dW (fopB bf 0 (-4)) zm zq) ≤ 0
    · rw [if_pos hc]
      have z2 := nI_s0 (by omega) hc
      refine ⟨fun z => (ih zs hs).1 (by omega), fun z z3 => ?_⟩
      by_cases e : zs = zq
      · rw [e, z2] at z3
        exact absurd z3 (by decide)
      · exact (ih zs hs).2 (by omega) z3
    · rw [if_neg hc]
      have z2 := nI_n0 (by omega) hc
      by_cases e : zs = zq
      · subst e
        refine ⟨fun z => by omega, fun z z3 => ?_⟩
        rw [bwT_in hm ((ih zs hs).1 (by omega)) (fun zt ht hb => ?_) zm (Nat.le_refl _), wW_eq hp hq2]
        have z4 := or_gt (hp zs zt hs ht hb)
        have z5 := dW_next hp hs ht hb
        exact (ih _ (or_lt hs ht)).2 (by omega) (by omega)
      · rw [bwT_out bf zq _ e zm]
        exact ⟨fun z => (ih zs hs).1 (by omega), fun z z3 => (ih zs hs).2 (by omega) z3⟩
theorem cwC_n (bf zf zg : Nat → Int32) {zm zs : Nat} (hm : zm ≤ 12) (hs : zs < 2 ^ zm) (hd : 1 ≤ dW (fopB bf 0 (-4)) zm zs) : cwC bf zm zf zg zs = nI (wW (fopB bf 0 (-4)) zm zs) := (bwS_n bf zf zg hm _ (Nat.le_refl _) zs hs).2 (by omega) hd
/-- the tables are laid -/
def CWt (h : AH) (zm : Nat) : Prop := (∀ zs, zs < 2 ^ zm → h.2.1 23 zs = nI (dW (fopB (h.2.1 22) 0 (-4)) zm zs)) ∧ (∀ zs, zs < 2 ^ zm → 1 ≤ dW (fopB (h.2.1 22) 0 (-4)) zm zs → h.2.1 24 zs = nI (wW (fopB (h.2.1 22) 0 (-4)) zm zs))
def CWz (h : AH) (zm : Nat) : Prop := ¬ h.2.1 20 5 = 0 → CWt h zm
theorem cw_t {h : AH} {m : Nat} (hm2 : m ≤ 12) (hc : CWz h m) : CWt (cwH h m) m := by
  unfold cwH
  by_cases e : h.2.1 20 5 = 0
  · rw [if_pos e]
    exact ⟨fun zs hs => cwA_n (h.2.1 22) (h.2.1 23) hm2 hs, fun zs hs hd => cwC_n (h.2.1 22) (h.2.1 23) (h.2.1 24) hm2 hs hd⟩
  · rw [if_neg e]
    exact hc e
theorem wf_cw {h : AH} {m : Nat} (hw : WF h) : WF (cwH h m) := by
  unfold cwH
  by_cases e : h.2.1 20 5 = 0
  · rw [if_pos e]; exact wf_sI (wf_sI (wf_sI hw))
  · rw [if_neg e]; exact hw
theorem cw_m {h : AH} {m : Nat} (hm : h.2.1 20 4 = nI m) : (cwH h m).2.1 20 4 = nI m := by
  unfold cwH
  by_cases e : h.2.1 20 5 = 0
  · rw [if_pos e]; exact hm
  · rw [if_neg e]; exact hm
theorem cw_22 (h : AH) (m : Nat) : (cwH h m).2.1 22 = h.2.1 22 := by
  unfold cwH
  by_cases e : h.2.1 20 5 = 0
  · rw [if_pos e]; rfl
  · rw [if_neg e]
/-- orders with one before another: by the set that lies before that other -/
def owN (zp : Nat → Nat → Bool) (zh : Nat → Bool) (zm zb : Nat) (zn : Nat) : Nat := fb_sm (fun zs => if zh zs = true ∧ zp zs zb = true then dW zp zm zs * wW zp zm (zs ||| 2 ^ zb) else 0) zn
theorem ow_eq {zp zq : Nat → Nat → Bool} {zh : Nat → Bool} {zm zb : Nat} (hp : pOK zp zm) (hq : pOK zq zm) (hb : zb < zm) (h1 : ∀ zs zt, zt < zm → ¬ zt = zb → zq zs zt = zp zs zt) (h2 : ∀ zs, zq zs zb = true ↔ (zh zs = true ∧ zp zs zb = true)) : owN zp zh zm zb (2 ^ zm) = wW zq zm 0 := by
  have hin : ∀ zn zs, zs < 2 ^ zm → 2 ^ zm - 1 - zs ≤ zn → zs.testBit zb = true → wW zq zm zs = wW zp zm zs := by
    intro zn
    induction zn with
    | zero =>
      intro zs hs hn _
      rw [show zs = 2 ^ zm - 1 by omega, wW_full, wW_full]
    | succ zn ih =>
      intro zs hs hn ht
      by_cases e : zs = 2 ^ zm - 1
      · rw [e, wW_full, wW_full]
      · rw [wW_eq hq (by omega), wW_eq hp (by omega)]
        refine fb_sm_cong (fun zt hzt => ?_)
        by_cases eb : zt = zb
        · subst eb
          rw [if_neg (fun z => by rw [hq zs zt hs hzt z] at ht; cases ht), if_neg (fun z => by rw [hp zs zt hs hzt z] at ht; cases ht)]
        · rw [h1 zs zt hzt eb]
          by_cases hc : zp zs zt = true
          · rw [if_pos hc, if_pos hc]
            have z1 := or_gt (hp zs zt hs hzt hc)
            exact ih _ (or_lt hs hzt) (by omega) (by rw [Nat.testBit_or, ht]; rfl)
          · rw [if_neg hc, if_neg hc]
  have hor : ∀ zs zt, zt < zm → (zs ||| 2 ^ zt).testBit zb = (zs.testBit zb || decide (zt = zb)) := fun zs zt _ => by rw [Nat.testBit_or, Nat.testBit_two_pow]
  have hstep : ∀ zs, zs < 2 ^ zm → (if zs.testBit zb = true then 0 else wW zq zm zs) = fb_sm (fun zk => if zp zs zk = true then (if (zs ||| 2 ^ zk).testBit zb = true then 0 else wW zq zm (zs ||| 2 ^ zk)) else 0) zm + (if zh zs = true ∧ zp zs zb = true then wW zp zm (zs ||| 2 ^ zb) else 0) := by
    intro zs hs
    by_cases ht : zs.testBit zb = true
    · rw [if_pos ht, if_neg (fun z => by rw [hp zs zb hs hb z.2] at ht; cases ht)]
      have z1 : fb_sm (fun zk => if zp zs zk = true then (if (zs ||| 2 ^ zk).testBit zb = true then 0 else wW zq zm (zs ||| 2 ^ zk)) else 0) zm = fb_sm (fun _ => 0) zm := fb_sm_cong (fun zk hk => by
        rw [hor zs zk hk, ht, Bool.true_or, if_pos rfl]
        by_cases hc : zp zs zk = true
        · rw [if_pos hc]
        · rw [if_neg hc])
      rw [z1, fb_sm_const, Nat.mul_zero]
    · have e : zs < 2 ^ zm - 1 := by
        rcases Nat.lt_or_ge zs (2 ^ zm - 1) with z | z
        · exact z
        · exfalso
          apply ht
          rw [show zs = 2 ^ zm - 1 by omega, Nat.testBit_two_pow_sub_one, decide_eq_true hb]
      rw [if_neg ht, wW_eq hq e]
      have z2 := fb_sm_upd (fun zk => if zp zs zk = true then (if (zs ||| 2 ^ zk).testBit zb = true then 0 else wW zq zm (zs ||| 2 ^ zk)) else 0) (if zh zs = true ∧ zp zs zb = true then wW zp zm (zs ||| 2 ^ zb) else 0) hb
      have z3 : (if zp zs zb = true then (if (zs ||| 2 ^ zb).testBit zb = true then 0 else wW zq zm (zs ||| 2 ^ zb)) else 0) = 0 := by
        rw [hor zs zb hb, decide_eq_true rfl, Bool.or_true, if_pos rfl]
        by_cases hc : zp zs zb = true
        · rw [if_pos hc]
        · rw [if_neg hc]
      rw [z3, Nat.add_zero] at z2
      rw [← z2]
      refine fb_sm_cong (fun zk hk => ?_)
      by_cases eb : zk = zb
      · subst eb
        rw [if_pos rfl]
        by_cases hc : zq zs zk = true
        · rw [if_pos hc, if_pos ((h2 zs).mp hc)]
          exact hin _ _ (or_lt hs hk) (Nat.le_refl _) (by rw [hor zs zk hk, decide_eq_true rfl, Bool.or_true])
        · rw [if_neg hc, if_neg (fun z => hc ((h2 zs).mpr z))]
      · rw [if_neg eb, h1 zs zk hk eb]
        by_cases hc : zp zs zk = true
        · rw [if_pos hc, if_pos hc, hor zs zk hk, decide_eq_false eb, Bool.or_false, if_neg ht]
        · rw [if_neg hc, if_neg hc]
  have hall : ∀ zs, zs ≤ 2 ^ zm → pS zp zm (fun zu => if zu.testBit zb = true then 0 else wW zq zm zu) zs + owN zp zh zm zb zs = wW zq zm 0 := by
    intro zs
    induction zs with
    | zero =>
      intro _
      rw [pS_0]
      show (if (0 : Nat).testBit zb = true then 0 else wW zq zm 0) + 0 = _
      rw [Nat.zero_testBit, if_neg (by decide)]
      rfl
    | succ zs ih =>
      intro hs
      have ih := ih (by omega)
      have z1 := pS_next hp (show zs < 2 ^ zm by omega) (fun zu => if zu.testBit zb = true then 0 else wW zq zm zu)
      rw [hstep zs (by omega), Nat.mul_add] at z1
      have z2 : owN zp zh zm zb (zs + 1) = owN zp zh zm zb zs + dW zp zm zs * (if zh zs = true ∧ zp zs zb = true then wW zp zm (zs ||| 2 ^ zb) else 0) := by
        unfold owN
        rw [fb_sm_succ]
        by_cases hc : zh zs = true ∧ zp zs zb = true
        · rw [if_pos hc, if_pos hc]
        · rw [if_neg hc, if_neg hc, Nat.mul_zero]
      omega
  have z := hall (2 ^ zm) (Nat.le_refl _)
  rw [pS_end, Nat.zero_add] at z
  exact z
