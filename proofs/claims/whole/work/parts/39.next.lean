def TMz (h : AH) (zb : Nat → Nat) (zn : Nat) : Prop := h.2.1 49 1 = nI zn ∧ zn ≤ 400 ∧ ∀ zk, zk < zn → h.2.1 50 zk = nI (zb zk) ∧ zb zk < 256
def bz (zb : Nat → Nat) (zn zk : Nat) : Int32 := if zk < zn then nI (zb zk) else -4
theorem cn_byteN (E : ME) (h : AH) (zb : Nat → Nat) (zn zk : Nat) (hw : WF h) (hT : TMz h zb zn) (hk : zk ≤ 500) : Con E mX11_byteAt 0 0 0 [.ref 49, .int (nI zk)] h (fun r h' => r = some (.int (bz zb zn zk)) ∧ h' = h) := by
  have z1 := cn_X11_byteAt E h (nI zk) hw (nI_pos' (by omega)) (by rw [hT.1]; exact nI_le hT.2.1 (by decide))
  have e : (if nI zk < h.2.1 49 1 then h.2.1 50 (nI zk).toNatClampNeg else -4) = bz zb zn zk := by
    unfold bz
    rw [hT.1, nI_clamp (by omega)]
    by_cases hz : zk < zn
    · rw [if_pos ((nI_ltI (by omega) (by have := hT.2.1; omega)).mpr hz), if_pos hz]
      exact (hT.2.2 zk hz).1
    · rw [if_neg (fun z => hz ((nI_ltI (by omega) (by have := hT.2.1; omega)).mp z)), if_neg hz]
  rw [e] at z1
  exact z1
theorem bz_c {h : AH} {zb : Nat → Nat} {zn zk zc : Nat} (hT : TMz h zb zn) (hc : zc < 2 ^ 31) : bz zb zn zk = nI zc ↔ zk < zn ∧ zb zk = zc := by
  unfold bz
  by_cases hz : zk < zn
  · rw [if_pos hz, nI_eq (by have := (hT.2.2 zk hz).2; omega) hc]
    exact ⟨fun z => ⟨hz, z⟩, fun z => z.2⟩
  · rw [if_neg hz]
    refine ⟨fun z => ?_, fun z => absurd z.1 hz⟩
    have h1 := congrArg Int32.toInt z
    rw [nI_toInt hc] at h1
    have h2 : (-4 : Int32).toInt = -4 := by decide
    omega
theorem bz_r {h : AH} {zb : Nat → Nat} {zn zk zl zm : Nat} (hT : TMz h zb zn) (hl : zl < 2 ^ 31) (hm : zm < 2 ^ 31) : (nI zl ≤ bz zb zn zk ∧ bz zb zn zk ≤ nI zm) ↔ zk < zn ∧ (zl ≤ zb zk ∧ zb zk ≤ zm) := by
  unfold bz
  by_cases hz : zk < zn
  · have h1 := (hT.2.2 zk hz).2
    rw [if_pos hz, nI_leI hl (by omega), nI_leI (by omega) hm]
    exact ⟨fun z => ⟨hz, z⟩, fun z => z.2⟩
  · rw [if_neg hz]
    refine ⟨fun z => ?_, fun z => absurd z.1 hz⟩
    have h1 := z.1
    rw [i_le, nI_toInt hl] at h1
    have h2 : (-4 : Int32).toInt = -4 := by decide
    omega
theorem bz_4 {h : AH} {zb : Nat → Nat} {zn zk : Nat} (hT : TMz h zb zn) : bz zb zn zk = -4 ↔ ¬ zk < zn := by
  unfold bz
  by_cases hz : zk < zn
  · rw [if_pos hz]
    refine ⟨fun z => ?_, fun z => absurd hz z⟩
    have h1 := congrArg Int32.toInt z
    have h3 := (hT.2.2 zk hz).2
    rw [nI_toInt (by omega)] at h1
    have h2 : (-4 : Int32).toInt = -4 := by decide
    omega
  · rw [if_neg hz]; exact ⟨fun _ => hz, fun _ => rfl⟩
theorem bz_L {h : AH} {zb : Nat → Nat} {zn zk : Nat} (hT : TMz h zb zn) : (97 ≤ bz zb zn zk ∧ bz zb zn zk ≤ 122) ↔ zk < zn ∧ isL (zb zk) = true := by
  rw [isL, decide_eq_true_iff]
  exact bz_r (zl := 97) (zm := 122) hT (by decide) (by decide)
theorem bz_D {h : AH} {zb : Nat → Nat} {zn zk : Nat} (hT : TMz h zb zn) : (48 ≤ bz zb zn zk ∧ bz zb zn zk ≤ 57) ↔ zk < zn ∧ isD (zb zk) = true := by
  rw [isD, decide_eq_true_iff]
  exact bz_r (zl := 48) (zm := 57) hT (by decide) (by decide)
theorem bz_W {h : AH} {zb : Nat → Nat} {zn zk : Nat} (hT : TMz h zb zn) : bz zb zn zk = 32 ↔ zk < zn ∧ isW (zb zk) = true := by
  rw [isW, decide_eq_true_iff]
  exact bz_c (zc := 32) hT (by decide)
theorem tk_end {zb : Nat → Nat} {zn zp : Nat} (h : ¬ tS zb zn zp < zn) : tK zb zn zp = 1 ∧ tE zb zn zp = tS zb zn zp := ⟨if_neg h, if_neg h⟩
theorem tk_nm {zb : Nat → Nat} {zn zp : Nat} (h : tS zb zn zp < zn) (h2 : isL (zb (tS zb zn zp)) = true) : tK zb zn zp = 2 ∧ tE zb zn zp = rnN zb zn isL (tS zb zn zp) := ⟨by unfold tK; rw [if_pos h, if_pos h2], by unfold tE; rw [if_pos h, if_pos h2]⟩
theorem tk_nb {zb : Nat → Nat} {zn zp : Nat} (h : tS zb zn zp < zn) (h2 : ¬ isL (zb (tS zb zn zp)) = true) (h3 : isD (zb (tS zb zn zp)) = true) : tK zb zn zp = (if tE zb zn zp - tS zb zn zp ≤ 3 then 3 else 0) ∧ tE zb zn zp = rnN zb zn isD (tS zb zn zp) := ⟨by unfold tK; rw [if_pos h, if_neg h2, if_pos h3], by unfold tE; rw [if_pos h, if_neg h2, if_pos h3]⟩
theorem tk_sg {zb : Nat → Nat} {zn zp : Nat} (h : tS zb zn zp < zn) (h2 : ¬ isL (zb (tS zb zn zp)) = true) (h3 : ¬ isD (zb (tS zb zn zp)) = true) : tK zb zn zp = (if zb (tS zb zn zp) = 59 then 4 else 0) ∧ tE zb zn zp = tS zb zn zp + 1 := ⟨by unfold tK; rw [if_pos h, if_neg h2, if_neg h3], by unfold tE; rw [if_pos h, if_neg h2, if_neg h3]⟩
/-- only the reader's own numbers have changed -/
def scE (h g : AH) : Prop := g.1 = h.1 ∧ g.2.2 = h.2.2 ∧ (∀ zk, zk ≠ 49 → g.2.1 zk = h.2.1 zk) ∧ ∀ zj, (zj < 3 ∨ 8 < zj) → g.2.1 49 zj = h.2.1 49 zj
/-- the token at hand is the one from zp on -/
def LAz (zb : Nat → Nat) (zn zp : Nat) (h : AH) : Prop := h.2.1 49 5 = nI (tE zb zn zp) ∧ h.2.1 49 6 = nI (tS zb zn zp) ∧ (¬ tK zb zn zp = 0 → h.2.1 49 7 = nI (tK zb zn zp - 1)) ∧ (tK zb zn zp = 3 → h.2.1 49 8 = nI (tV zb zn zp)) ∧ h.2.1 49 3 = nI (wrK zb zn zp) ∧ (tK zb zn zp = 0 → h.2.1 49 4 = nI (tS zb zn zp))
theorem scE_T {h g : AH} {zb : Nat → Nat} {zn : Nat} (hs : scE h g) (hT : TMz h zb zn) : TMz g zb zn := ⟨(hs.2.2.2 1 (by omega)).trans hT.1, hT.2.1, fun zk hk => by rw [hs.2.2.1 50 (by decide)]; exact hT.2.2 zk hk⟩
theorem scE_w {h g : AH} (hs : scE h g) (hw : WF h) : WF g := by
  refine ⟨hs.1.trans hw.1, fun k j q hq => ?_⟩
  rw [hs.2.1]
  exact hw.2 k j q hq
theorem scE_t {h g k : AH} (h1 : scE h g) (h2 : scE g k) : scE h k := ⟨h2.1.trans h1.1, h2.2.1.trans h1.2.1, fun zk hk => (h2.2.2.1 zk hk).trans (h1.2.2.1 zk hk), fun zj hj => (h2.2.2.2 zj hj).trans (h1.2.2.2 zj hj)⟩
theorem scE_r (h : AH) : scE h h := ⟨rfl, rfl, fun _ _ => rfl, fun _ _ => rfl⟩
theorem scE_s (h : AH) (zf : Nat → Int32) (H : ∀ zj, (zj < 3 ∨ 8 < zj) → zf zj = h.2.1 49 zj) : scE h (sI h 49 zf) := ⟨rfl, rfl, fun _ hk => if_neg hk, H⟩
theorem tm_f {h : AH} {zb : Nat → Nat} {zn : Nat} (hT : TMz h zb zn) {zf : Nat → Int32} (hf : zf 1 = nI zn) : TMz (sI h 49 zf) zb zn := ⟨hf, hT.2⟩
theorem rnf_id {zf : Nat → Int32} {zk : Nat} {zv : Int32} (h : zf zk = zv) : zf = upd zf zk zv := (fa_upd_same h).symm
theorem lp_next_8 (E : ME) (h : AH) (zb : Nat → Nat) (zn : Nat) (zf : Nat → Int32) (zc : Int32) (hw : WF h) (hT : TMz h zb zn) (hf : zf 1 = nI zn) {post : PO} : ∀ zq zp : Nat, zp + zq = zn → Ev E mX11_next (rmm 1 0 0) (QM E 0 0 post) 0 0 34 [some (.ref 49), none] [] (sI h 49 (upd zf 5 (nI (rnN zb zn isW zp)))) → Ev E mX11_next (rmm 1 0 0) (QM E 0 0 post) 0 0 8 [some (.ref 49), none] [] (sI h 49 (upd zf 5 (nI zp))) := by
  intro zq
  induction zq with
  | zero =>
    intro zp hp K
    rw [rn_out (fun z => by omega)] at K
    refine ev_aload_n (pc := 8) dX11_next_8 rfl ?_
    refine ev_aload_n (pc := 9) dX11_next_9 rfl ?_
    refine ev_getI (pc := 10) dX11_next_10 fX11_109 rfl (wlt (wf_sI hw) (by decide)) ?_
    refine ev_eqI (e' := nI zp) (by rfl) ?_
    refine ev_callVv (S := []) (pc := 13) dX11_next_13 kX11_byteAt lX11_112 vX11_byteAt (cn_byteN E (sI h 49 (upd zf 5 (nI zp))) zb zn zp (wf_sI hw) (tm_f hT (by first | exact hf | exact hT.1)) (by have := hT.2.1; omega)) rfl rfl (wlt (wf_sI hw) (by decide)) rfl rfl (Nat.le_of_ble_eq_true rfl) ⟨Nat.le_of_ble_eq_true rfl, Nat.le_of_ble_eq_true rfl⟩ ⟨Nat.le_of_ble_eq_true rfl, Nat.le_of_ble_eq_true rfl⟩ ?_
    refine ev_bipush (pc := 16) (v := 32) dX11_next_16 (by decide) ?_
    refine ev_icmp_ne (pc := 18) (tgt := 34) dX11_next_18 (by decide) (fun zc18 => ?_) (fun zc18 => absurd zc18 (fun z => by have z1 := (bz_W hT).mp z; omega))
    exact K
  | succ zq ih =>
    intro zp hp K
    refine ev_aload_n (pc := 8) dX11_next_8 rfl ?_
    refine ev_aload_n (pc := 9) dX11_next_9 rfl ?_
    refine ev_getI (pc := 10) dX11_next_10 fX11_109 rfl (wlt (wf_sI hw) (by decide)) ?_
    refine ev_eqI (e' := nI zp) (by rfl) ?_
    refine ev_callVv (S := []) (pc := 13) dX11_next_13 kX11_byteAt lX11_112 vX11_byteAt (cn_byteN E (sI h 49 (upd zf 5 (nI zp))) zb zn zp (wf_sI hw) (tm_f hT (by first | exact hf | exact hT.1)) (by have := hT.2.1; omega)) rfl rfl (wlt (wf_sI hw) (by decide)) rfl rfl (Nat.le_of_ble_eq_true rfl) ⟨Nat.le_of_ble_eq_true rfl, Nat.le_of_ble_eq_true rfl⟩ ⟨Nat.le_of_ble_eq_true rfl, Nat.le_of_ble_eq_true rfl⟩ ?_
    refine ev_bipush (pc := 16) (v := 32) dX11_next_16 (by decide) ?_
    refine ev_icmp_ne (pc := 18) (tgt := 34) dX11_next_18 (by decide) (fun zc18 => ?_) (fun zc18 => ?_)
    · -- ne at 18: taken
      rw [rn_out (fun z => zc18 ((bz_W hT).mpr z))] at K
      exact K
    · -- ne at 18: not taken
      refine ev_aload_n (pc := 21) dX11_next_21 rfl ?_
      refine ev_dup (pc := 22) dX11_next_22 rfl ?_
      refine ev_getI (pc := 23) dX11_next_23 fX11_109 rfl (wlt (wf_sI hw) (by decide)) ?_
      refine ev_eqI (e' := nI zp) (by rfl) ?_
      refine ev_iconst (pc := 26) (v := 1) dX11_next_26 (by decide) ?_
      refine ev_iadd (pc := 27) dX11_next_27 ?_
      refine ev_eqI (e' := nI (zp + 1)) (nI_add zp 1) ?_
      refine ev_putI (pc := 28) dX11_next_28 fX11_109 rfl (wlt (wf_sI hw) (by decide)) ?_
      refine ev_eqH (h' := sI h 49 (upd zf 5 (nI (zp + 1)))) (by refine (sI_sI _ _ _ _).trans ?_; refine congrArg _ (funext fun zj => ?_); simp only [upd, vp_updL, sI_at]; (repeat' split) <;> first | rfl | (exfalso; omega)) ?_
      refine ev_goto (pc := 31) (tgt := 8) dX11_next_31 (by decide) ?_
      rw [rn_in ((bz_W hT).mp zc18).1 ((bz_W hT).mp zc18).2] at K
      exact ih (zp + 1) (by omega) K
theorem lp_next_84 (E : ME) (h : AH) (zb : Nat → Nat) (zn : Nat) (zf : Nat → Int32) (zc : Int32) (hw : WF h) (hT : TMz h zb zn) (hf : zf 1 = nI zn) {post : PO} : ∀ zq zp : Nat, zp + zq = zn → Ev E mX11_next (rmm 1 0 0) (QM E 0 0 post) 0 0 118 [some (.ref 49), some (.int zc)] [] (sI h 49 (upd zf 5 (nI (rnN zb zn isL zp)))) → Ev E mX11_next (rmm 1 0 0) (QM E 0 0 post) 0 0 84 [some (.ref 49), some (.int zc)] [] (sI h 49 (upd zf 5 (nI zp))) := by
  intro zq
  induction zq with
  | zero =>
    intro zp hp K
    rw [rn_out (fun z => by omega)] at K
    refine ev_aload_n (pc := 84) dX11_next_84 rfl ?_
    refine ev_aload_n (pc := 85) dX11_next_85 rfl ?_
    refine ev_getI (pc := 86) dX11_next_86 fX11_109 rfl (wlt (wf_sI hw) (by decide)) ?_
    refine ev_eqI (e' := nI zp) (by rfl) ?_
    refine ev_callVv (S := []) (pc := 89) dX11_next_89 kX11_byteAt lX11_112 vX11_byteAt (cn_byteN E (sI h 49 (upd zf 5 (nI zp))) zb zn zp (wf_sI hw) (tm_f hT (by first | exact hf | exact hT.1)) (by have := hT.2.1; omega)) rfl rfl (wlt (wf_sI hw) (by decide)) rfl rfl (Nat.le_of_ble_eq_true rfl) ⟨Nat.le_of_ble_eq_true rfl, Nat.le_of_ble_eq_true rfl⟩ ⟨Nat.le_of_ble_eq_true rfl, Nat.le_of_ble_eq_true rfl⟩ ?_
    refine ev_i2l (pc := 92) dX11_next_92 ?_
    refine ev_ldc2 (pc := 93) (v := 97) dX11_next_93 kcX11_122 ?_
    refine ev_ldc2 (pc := 96) (v := 122) dX11_next_96 kcX11_124 ?_
    refine ev_callSv (S := []) (pc := 99) dX11_next_99 kX11_in lX11_96 sX11_in (cn_X11_inC E (sI h 49 (upd zf 5 (nI zp))) (bz zb zn zp) 97 122 _ _ _ rfl (by decide) (by decide)) rfl rfl (Nat.le_of_ble_eq_true rfl) ⟨Nat.le_of_ble_eq_true rfl, Nat.le_of_ble_eq_true rfl⟩ ⟨Nat.le_of_ble_eq_true rfl, Nat.le_of_ble_eq_true rfl⟩ ?_
    refine ev_if_eq (pc := 102) (tgt := 118) dX11_next_102 (by decide) (fun zc102 => ?_) (fun zc102 => absurd (bI_0.mpr (fun z => by have z1 := (bz_L hT).mp z; omega)) zc102)
    exact K
  | succ zq ih =>
    intro zp hp K
    refine ev_aload_n (pc := 84) dX11_next_84 rfl ?_
    refine ev_aload_n (pc := 85) dX11_next_85 rfl ?_
    refine ev_getI (pc := 86) dX11_next_86 fX11_109 rfl (wlt (wf_sI hw) (by decide)) ?_
    refine ev_eqI (e' := nI zp) (by rfl) ?_
    refine ev_callVv (S := []) (pc := 89) dX11_next_89 kX11_byteAt lX11_112 vX11_byteAt (cn_byteN E (sI h 49 (upd zf 5 (nI zp))) zb zn zp (wf_sI hw) (tm_f hT (by first | exact hf | exact hT.1)) (by have := hT.2.1; omega)) rfl rfl (wlt (wf_sI hw) (by decide)) rfl rfl (Nat.le_of_ble_eq_true rfl) ⟨Nat.le_of_ble_eq_true rfl, Nat.le_of_ble_eq_true rfl⟩ ⟨Nat.le_of_ble_eq_true rfl, Nat.le_of_ble_eq_true rfl⟩ ?_
    refine ev_i2l (pc := 92) dX11_next_92 ?_
    refine ev_ldc2 (pc := 93) (v := 97) dX11_next_93 kcX11_122 ?_
    refine ev_ldc2 (pc := 96) (v := 122) dX11_next_96 kcX11_124 ?_
    refine ev_callSv (S := []) (pc := 99) dX11_next_99 kX11_in lX11_96 sX11_in (cn_X11_inC E (sI h 49 (upd zf 5 (nI zp))) (bz zb zn zp) 97 122 _ _ _ rfl (by decide) (by decide)) rfl rfl (Nat.le_of_ble_eq_true rfl) ⟨Nat.le_of_ble_eq_true rfl, Nat.le_of_ble_eq_true rfl⟩ ⟨Nat.le_of_ble_eq_true rfl, Nat.le_of_ble_eq_true rfl⟩ ?_
    refine ev_if_eq (pc := 102) (tgt := 118) dX11_next_102 (by decide) (fun zc102 => ?_) (fun zc102 => ?_)
    · -- eq at 102: taken
      rw [rn_out (fun z => bI_0.mp zc102 ((bz_L hT).mpr z))] at K
      exact K
    · -- eq at 102: not taken
      refine ev_aload_n (pc := 105) dX11_next_105 rfl ?_
      refine ev_dup (pc := 106) dX11_next_106 rfl ?_
      refine ev_getI (pc := 107) dX11_next_107 fX11_109 rfl (wlt (wf_sI hw) (by decide)) ?_
      refine ev_eqI (e' := nI zp) (by rfl) ?_
      refine ev_iconst (pc := 110) (v := 1) dX11_next_110 (by decide) ?_
      refine ev_iadd (pc := 111) dX11_next_111 ?_
      refine ev_eqI (e' := nI (zp + 1)) (nI_add zp 1) ?_
      refine ev_putI (pc := 112) dX11_next_112 fX11_109 rfl (wlt (wf_sI hw) (by decide)) ?_
      refine ev_eqH (h' := sI h 49 (upd zf 5 (nI (zp + 1)))) (by refine (sI_sI _ _ _ _).trans ?_; refine congrArg _ (funext fun zj => ?_); simp only [upd, vp_updL, sI_at]; (repeat' split) <;> first | rfl | (exfalso; omega)) ?_
      refine ev_goto (pc := 115) (tgt := 84) dX11_next_115 (by decide) ?_
      rw [rn_in ((bz_L hT).mp (bI_n0.mp zc102)).1 ((bz_L hT).mp (bI_n0.mp zc102)).2] at K
      exact ih (zp + 1) (by omega) K
def dg3 (zb : Nat → Nat) (zs zk : Nat) : Nat := if zk < 3 then dgN zb zs zk else dgN zb zs 3
theorem dg3_lt {zb : Nat → Nat} {zs zk : Nat} (H : ∀ zj, zj < zk → zb (zs + zj) ≤ 57) : dg3 zb zs zk < 1000 := by
  unfold dg3
  by_cases h : zk < 3
  · rw [if_pos h]
    exact Nat.lt_of_lt_of_le (dg_bd zk (by omega) H) (p10 zk (by omega))
  · rw [if_neg h]
    exact Nat.lt_of_lt_of_le (dg_bd 3 (by omega) (fun zj hj => H zj (by omega))) (p10 3 (by omega))
theorem dg3_s {zb : Nat → Nat} {zs zk : Nat} (h : zk < 3) : dg3 zb zs (zk + 1) = 10 * dg3 zb zs zk + (zb (zs + zk) - 48) := by
  unfold dg3
  rw [if_pos h]
  by_cases h2 : zk + 1 < 3
  · rw [if_pos h2, dgN]
  · obtain rfl : zk = 2 := by omega
    rw [if_neg h2, dgN]
theorem dg3_n {zb : Nat → Nat} {zs zk : Nat} (h : ¬ zk < 3) : dg3 zb zs (zk + 1) = dg3 zb zs zk := by
  unfold dg3
  rw [if_neg h, if_neg (by omega)]
theorem lp_next_140 (E : ME) (h : AH) (zb : Nat → Nat) (zn : Nat) (zf : Nat → Int32) (zc : Int32) (zs : Nat) (hw : WF h) (hT : TMz h zb zn) (hf : zf 1 = nI zn) (h6 : zf 6 = nI zs) {post : PO} : ∀ zq zk : Nat, zs + zk + zq = zn → (∀ zj, zj < zk → zb (zs + zj) ≤ 57) → Ev E mX11_next (rmm 1 0 0) (QM E 0 0 post) 0 0 217 [some (.ref 49), some (.int zc)] [] (sI h 49 (upd (upd zf 5 (nI (zs + (rnN zb zn isD (zs + zk) - zs)))) 8 (nI (dg3 zb zs (rnN zb zn isD (zs + zk) - zs))))) → Ev E mX11_next (rmm 1 0 0) (QM E 0 0 post) 0 0 140 [some (.ref 49), some (.int zc)] [] (sI h 49 (upd (upd zf 5 (nI (zs + zk))) 8 (nI (dg3 zb zs zk)))) := by
  intro zq
  induction zq with
  | zero =>
    intro zk hp H K
    rw [rn_out (fun z => by omega), Nat.add_sub_cancel_left] at K
    refine ev_aload_n (pc := 140) dX11_next_140 rfl ?_
    refine ev_aload_n (pc := 141) dX11_next_141 rfl ?_
    refine ev_getI (pc := 142) dX11_next_142 fX11_109 rfl (wlt (wf_sI hw) (by decide)) ?_
    refine ev_eqI (e' := nI (zs + zk)) (by rfl) ?_
    refine ev_callVv (S := []) (pc := 145) dX11_next_145 kX11_byteAt lX11_112 vX11_byteAt (cn_byteN E (sI h 49 (upd (upd zf 5 (nI (zs + zk))) 8 (nI (dg3 zb zs zk)))) zb zn (zs + zk) (wf_sI hw) (tm_f hT (by first | exact hf | exact hT.1)) (by have := hT.2.1; omega)) rfl rfl (wlt (wf_sI hw) (by decide)) rfl rfl (Nat.le_of_ble_eq_true rfl) ⟨Nat.le_of_ble_eq_true rfl, Nat.le_of_ble_eq_true rfl⟩ ⟨Nat.le_of_ble_eq_true rfl, Nat.le_of_ble_eq_true rfl⟩ ?_
    refine ev_i2l (pc := 148) dX11_next_148 ?_
    refine ev_ldc2 (pc := 149) (v := 48) dX11_next_149 kcX11_126 ?_
    refine ev_ldc2 (pc := 152) (v := 57) dX11_next_152 kcX11_128 ?_
    refine ev_callSv (S := []) (pc := 155) dX11_next_155 kX11_in lX11_96 sX11_in (cn_X11_inC E (sI h 49 (upd (upd zf 5 (nI (zs + zk))) 8 (nI (dg3 zb zs zk)))) (bz zb zn (zs + zk)) 48 57 _ _ _ rfl (by decide) (by decide)) rfl rfl (Nat.le_of_ble_eq_true rfl) ⟨Nat.le_of_ble_eq_true rfl, Nat.le_of_ble_eq_true rfl⟩ ⟨Nat.le_of_ble_eq_true rfl, Nat.le_of_ble_eq_true rfl⟩ ?_
    refine ev_if_eq (pc := 158) (tgt := 217) dX11_next_158 (by decide) (fun zc158 => ?_) (fun zc158 => absurd (bI_0.mpr (fun z => by have z1 := (bz_D hT).mp z; omega)) zc158)
    exact K
  | succ zq ih =>
    intro zk hp H K
    have zlt := dg3_lt H
    have zn4 := hT.2.1
    refine ev_aload_n (pc := 140) dX11_next_140 rfl ?_
    refine ev_aload_n (pc := 141) dX11_next_141 rfl ?_
    refine ev_getI (pc := 142) dX11_next_142 fX11_109 rfl (wlt (wf_sI hw) (by decide)) ?_
    refine ev_eqI (e' := nI (zs + zk)) (by rfl) ?_
    refine ev_callVv (S := []) (pc := 145) dX11_next_145 kX11_byteAt lX11_112 vX11_byteAt (cn_byteN E (sI h 49 (upd (upd zf 5 (nI (zs + zk))) 8 (nI (dg3 zb zs zk)))) zb zn (zs + zk) (wf_sI hw) (tm_f hT (by first | exact hf | exact hT.1)) (by have := hT.2.1; omega)) rfl rfl (wlt (wf_sI hw) (by decide)) rfl rfl (Nat.le_of_ble_eq_true rfl) ⟨Nat.le_of_ble_eq_true rfl, Nat.le_of_ble_eq_true rfl⟩ ⟨Nat.le_of_ble_eq_true rfl, Nat.le_of_ble_eq_true rfl⟩ ?_
    refine ev_i2l (pc := 148) dX11_next_148 ?_
    refine ev_ldc2 (pc := 149) (v := 48) dX11_next_149 kcX11_126 ?_
    refine ev_ldc2 (pc := 152) (v := 57) dX11_next_152 kcX11_128 ?_
    refine ev_callSv (S := []) (pc := 155) dX11_next_155 kX11_in lX11_96 sX11_in (cn_X11_inC E (sI h 49 (upd (upd zf 5 (nI (zs + zk))) 8 (nI (dg3 zb zs zk)))) (bz zb zn (zs + zk)) 48 57 _ _ _ rfl (by decide) (by decide)) rfl rfl (Nat.le_of_ble_eq_true rfl) ⟨Nat.le_of_ble_eq_true rfl, Nat.le_of_ble_eq_true rfl⟩ ⟨Nat.le_of_ble_eq_true rfl, Nat.le_of_ble_eq_true rfl⟩ ?_
    refine ev_if_eq (pc := 158) (tgt := 217) dX11_next_158 (by decide) (fun zc158 => ?_) (fun zc158 => ?_)
    · -- eq at 158: taken
      rw [rn_out (fun z => bI_0.mp zc158 ((bz_D hT).mpr z)), Nat.add_sub_cancel_left] at K
      exact K
    · -- eq at 158: not taken
      have z9 := (bz_D hT).mp (bI_n0.mp zc158)
      refine ev_aload_n (pc := 161) dX11_next_161 rfl ?_
      refine ev_aload_n (pc := 162) dX11_next_162 rfl ?_
      refine ev_getI (pc := 163) dX11_next_163 fX11_109 rfl (wlt (wf_sI hw) (by decide)) ?_
      refine ev_eqI (e' := nI (zs + zk)) (by rfl) ?_
      refine ev_aload_n (pc := 166) dX11_next_166 rfl ?_
      refine ev_getI (pc := 167) dX11_next_167 fX11_103 rfl (wlt (wf_sI hw) (by decide)) ?_
      refine ev_eqI (e' := zf 6) (by rfl) ?_
      refine ev_eqI (e' := nI zs) h6 ?_
      refine ev_isub (pc := 170) dX11_next_170 ?_
      refine ev_eqI (e' := nI zk) (by rw [pk_sub (by omega), Nat.add_sub_cancel_left]) ?_
      refine ev_iconst (pc := 171) (v := 3) dX11_next_171 (by decide) ?_
      refine ev_icmp_ge (pc := 172) (tgt := 197) dX11_next_172 (by decide) (fun zc172 => ?_) (fun zc172 => ?_)
      · -- ge at 172: taken
        refine ev_aload_n (pc := 197) dX11_next_197 rfl ?_
        refine ev_getI (pc := 198) dX11_next_198 fX11_116 rfl (wlt (wf_sI hw) (by decide)) ?_
        refine ev_eqI (e' := nI (dg3 zb zs zk)) (by rfl) ?_
        refine ev_putI (pc := 201) dX11_next_201 fX11_116 rfl (wlt (wf_sI hw) (by decide)) ?_
        refine ev_eqH (h' := sI h 49 (upd (upd zf 5 (nI (zs + zk))) 8 (nI (dg3 zb zs zk)))) (by refine (sI_sI _ _ _ _).trans ?_; refine congrArg _ (funext fun zj => ?_); simp only [upd, vp_updL, sI_at]; (repeat' split) <;> first | rfl | (exfalso; omega)) ?_
        refine ev_aload_n (pc := 204) dX11_next_204 rfl ?_
        refine ev_dup (pc := 205) dX11_next_205 rfl ?_
        refine ev_getI (pc := 206) dX11_next_206 fX11_109 rfl (wlt (wf_sI hw) (by decide)) ?_
        refine ev_eqI (e' := nI (zs + zk)) (by rfl) ?_
        refine ev_iconst (pc := 209) (v := 1) dX11_next_209 (by decide) ?_
        refine ev_iadd (pc := 210) dX11_next_210 ?_
        refine ev_eqI (e' := nI ((zs + zk) + 1)) (nI_add (zs + zk) 1) ?_
        refine ev_putI (pc := 211) dX11_next_211 fX11_109 rfl (wlt (wf_sI hw) (by decide)) ?_
        refine ev_eqH (h' := sI h 49 (upd (upd zf 5 (nI ((zs + zk) + 1))) 8 (nI (dg3 zb zs zk)))) (by refine (sI_sI _ _ _ _).trans ?_; refine congrArg _ (funext fun zj => ?_); simp only [upd, vp_updL, sI_at]; (repeat' split) <;> first | rfl | (exfalso; omega)) ?_
        refine ev_goto (pc := 214) (tgt := 140) dX11_next_214 (by decide) ?_
        rw [rn_in z9.1 z9.2] at K
        have z57 : zb (zs + zk) ≤ 57 ∧ 48 ≤ zb (zs + zk) := by have z1 := of_decide_eq_true z9.2; omega
        refine ev_eqH (h' := sI h 49 (upd (upd zf 5 (nI (zs + (zk + 1)))) 8 (nI (dg3 zb zs (zk + 1))))) (by rw [(dg3_n (fun z => by have z1 := (nI_leI (a := 3) (b := zk) (by decide) (by omega)).mp zc172; omega))]; rfl) ?_
        exact ih (zk + 1) (by omega) (fun zj hj => by rcases Nat.lt_or_ge zj zk with z1 | z1; exact H zj z1; rw [show zj = zk by omega]; exact z57.1) K
      · -- ge at 172: not taken
        refine ev_bipush (pc := 175) (v := 10) dX11_next_175 (by decide) ?_
        refine ev_aload_n (pc := 177) dX11_next_177 rfl ?_
        refine ev_getI (pc := 178) dX11_next_178 fX11_116 rfl (wlt (wf_sI hw) (by decide)) ?_
        refine ev_eqI (e' := nI (dg3 zb zs zk)) (by rfl) ?_
        refine ev_imul (pc := 181) dX11_next_181 ?_
        refine ev_eqI (e' := nI (10 * (dg3 zb zs zk))) (pk_mul 10 (dg3 zb zs zk)) ?_
        refine ev_aload_n (pc := 182) dX11_next_182 rfl ?_
        refine ev_aload_n (pc := 183) dX11_next_183 rfl ?_
        refine ev_getI (pc := 184) dX11_next_184 fX11_109 rfl (wlt (wf_sI hw) (by decide)) ?_
        refine ev_eqI (e' := nI (zs + zk)) (by rfl) ?_
        refine ev_callVv (S := [.int (nI (10 * (dg3 zb zs zk))), .ref 49]) (pc := 187) dX11_next_187 kX11_byteAt lX11_112 vX11_byteAt (cn_byteN E (sI h 49 (upd (upd zf 5 (nI (zs + zk))) 8 (nI (dg3 zb zs zk)))) zb zn (zs + zk) (wf_sI hw) (tm_f hT (by first | exact hf | exact hT.1)) (by have := hT.2.1; omega)) rfl rfl (wlt (wf_sI hw) (by decide)) rfl rfl (Nat.le_of_ble_eq_true rfl) ⟨Nat.le_of_ble_eq_true rfl, Nat.le_of_ble_eq_true rfl⟩ ⟨Nat.le_of_ble_eq_true rfl, Nat.le_of_ble_eq_true rfl⟩ ?_
        refine ev_eqI (e' := nI (zb (zs + zk))) (if_pos z9.1) ?_
        refine ev_iadd (pc := 190) dX11_next_190 ?_
        refine ev_eqI (e' := nI ((10 * (dg3 zb zs zk)) + (zb (zs + zk)))) (nI_add (10 * (dg3 zb zs zk)) (zb (zs + zk))) ?_
        refine ev_bipush (pc := 191) (v := 48) dX11_next_191 (by decide) ?_
        refine ev_isub (pc := 193) dX11_next_193 ?_
        refine ev_eqI (e' := nI (10 * dg3 zb zs zk + (zb (zs + zk) - 48))) (by have z1 := of_decide_eq_true z9.2; have z2 := pk_sub (a := 10 * dg3 zb zs zk + zb (zs + zk)) (b := 48) (by omega); rw [show 10 * dg3 zb zs zk + (zb (zs + zk) - 48) = 10 * dg3 zb zs zk + zb (zs + zk) - 48 by omega]; exact z2) ?_
        refine ev_goto (pc := 194) (tgt := 201) dX11_next_194 (by decide) ?_
        refine ev_putI (pc := 201) dX11_next_201 fX11_116 rfl (wlt (wf_sI hw) (by decide)) ?_
        refine ev_eqH (h' := sI h 49 (upd (upd zf 5 (nI (zs + zk))) 8 (nI (10 * dg3 zb zs zk + (zb (zs + zk) - 48))))) (by refine (sI_sI _ _ _ _).trans ?_; refine congrArg _ (funext fun zj => ?_); simp only [upd, vp_updL, sI_at]; (repeat' split) <;> first | rfl | (exfalso; omega)) ?_
        refine ev_aload_n (pc := 204) dX11_next_204 rfl ?_
        refine ev_dup (pc := 205) dX11_next_205 rfl ?_
        refine ev_getI (pc := 206) dX11_next_206 fX11_109 rfl (wlt (wf_sI hw) (by decide)) ?_
        refine ev_eqI (e' := nI (zs + zk)) (by rfl) ?_
        refine ev_iconst (pc := 209) (v := 1) dX11_next_209 (by decide) ?_
        refine ev_iadd (pc := 210) dX11_next_210 ?_
        refine ev_eqI (e' := nI ((zs + zk) + 1)) (nI_add (zs + zk) 1) ?_
        refine ev_putI (pc := 211) dX11_next_211 fX11_109 rfl (wlt (wf_sI hw) (by decide)) ?_
        refine ev_eqH (h' := sI h 49 (upd (upd zf 5 (nI ((zs + zk) + 1))) 8 (nI (10 * dg3 zb zs zk + (zb (zs + zk) - 48))))) (by refine (sI_sI _ _ _ _).trans ?_; refine congrArg _ (funext fun zj => ?_); simp only [upd, vp_updL, sI_at]; (repeat' split) <;> first | rfl | (exfalso; omega)) ?_
        refine ev_goto (pc := 214) (tgt := 140) dX11_next_214 (by decide) ?_
        rw [rn_in z9.1 z9.2] at K
        have z57 : zb (zs + zk) ≤ 57 ∧ 48 ≤ zb (zs + zk) := by have z1 := of_decide_eq_true z9.2; omega
        refine ev_eqH (h' := sI h 49 (upd (upd zf 5 (nI (zs + (zk + 1)))) 8 (nI (dg3 zb zs (zk + 1))))) (by rw [(dg3_s (Nat.not_le.mp (fun z => zc172 ((nI_leI (a := 3) (b := zk) (by decide) (by omega)).mpr z))))]; rfl) ?_
        exact ih (zk + 1) (by omega) (fun zj hj => by rcases Nat.lt_or_ge zj zk with z1 | z1; exact H zj z1; rw [show zj = zk by omega]; exact z57.1) K
