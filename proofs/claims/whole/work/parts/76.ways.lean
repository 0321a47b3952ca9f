theorem fop_mf {bf : Nat → Int32} {zs zt : Nat} (ht : zt < 12) : fopB bf 0 (-4) zs zt = true ↔ (nI zs >>> (nI zt &&& 31)) &&& 1 = 0 ∧ bf zt &&& (nI zs ^^^ (-1)) = 0 := by
  unfold fopB
  rw [decide_eq_true_iff, if_neg (nI_m4 zt ht), or_zero32]
theorem fop_no {bf : Nat → Int32} {zs zt : Nat} (ht : zt < 12) (h : fopB bf 0 (-4) zs zt = true) : zs ≠ zs ||| 2 ^ zt := by
  have z1 := or_gt ((fop_iff ht).mp h).1
  omega
/-- the first so many are none -/
def zrF (f : Nat → Int32) : Nat → Nat → Int32
  | 0 => f
  | k + 1 => upd (zrF f k) k 0
theorem zr_eq (f : Nat → Int32) : ∀ zn zi, zrF f zn zi = if zi < zn then 0 else f zi
  | 0, zi => by rw [zrF, if_neg (Nat.not_lt_zero _)]
  | zn + 1, zi => by
    rw [zrF]
    by_cases e : zi = zn
    · rw [if_pos (show zi < zn + 1 by omega)]
      exact if_pos e
    · refine (if_neg e).trans ?_
      rw [zr_eq f zn zi]
      by_cases e2 : zi < zn
      · rw [if_pos e2, if_pos (by omega)]
      · rw [if_neg e2, if_neg (by omega)]
/-- ways to the sets: from one on; from all -/
def fwT (bf : Nat → Int32) (s : Nat) (f : Nat → Int32) : Nat → Nat → Int32
  | 0 => f
  | t + 1 => if fopB bf 0 (-4) s t = true then upd (fwT bf s f t) (s ||| 2 ^ t) (fwT bf s f t (s ||| 2 ^ t) + fwT bf s f t s) else fwT bf s f t
def fwS (bf : Nat → Int32) (m : Nat) (f : Nat → Int32) : Nat → Nat → Int32
  | 0 => f
  | s + 1 => if fwS bf m f s s ≤ 0 then fwS bf m f s else fwT bf s (fwS bf m f s) m
theorem fwT_s (bf : Nat → Int32) (zs : Nat) (zf : Nat → Int32) : ∀ zt, zt ≤ 12 → fwT bf zs zf zt zs = zf zs
  | 0, _ => by rw [fwT]
  | zt + 1, ht => by
    rw [fwT]
    by_cases hc : fopB bf 0 (-4) zs zt = true
    · rw [if_pos hc]
      exact (if_neg (fop_no (by omega) hc)).trans (fwT_s bf zs zf zt (by omega))
    · rw [if_neg hc]
      exact fwT_s bf zs zf zt (by omega)
/-- ways from the sets -/
def bwT (bf : Nat → Int32) (s : Nat) (f : Nat → Int32) : Nat → Nat → Int32
  | 0 => f
  | t + 1 => if fopB bf 0 (-4) s t = true then upd (bwT bf s f t) s (bwT bf s f t s + bwT bf s f t (s ||| 2 ^ t)) else bwT bf s f t
def bwS (bf : Nat → Int32) (m : Nat) (a f : Nat → Int32) : Nat → Nat → Int32
  | 0 => f
  | j + 1 => if a (2 ^ m - 2 - j) ≤ 0 then bwS bf m a f j else bwT bf (2 ^ m - 2 - j) (bwS bf m a f j) m
def cwA (bf : Nat → Int32) (m : Nat) (f : Nat → Int32) : Nat → Int32 := fwS bf m (upd (zrF f (2 ^ m)) 0 1) (2 ^ m)
def cwC (bf : Nat → Int32) (m : Nat) (f g : Nat → Int32) : Nat → Int32 := bwS bf m (cwA bf m f) (upd (zrF g (2 ^ m)) (2 ^ m - 1) 1) (2 ^ m - 1)
def cwH (h : AH) (m : Nat) : AH := if h.2.1 20 5 = 0 then sI (sI (sI h 23 (cwA (h.2.1 22) m (h.2.1 23))) 24 (cwC (h.2.1 22) m (h.2.1 23) (h.2.1 24))) 20 (upd (h.2.1 20) 5 1) else h
theorem sI_id2 (h : AH) : h = sI (sI h 23 (h.2.1 23)) 24 (h.2.1 24) := by
  rw [sI_id h 23]
  exact (sI_id h 24).symm
theorem cn_X6_mayFollow (E : ME) (h : AH) (zs zt : Nat) (hw : WF h) (ht : zt < 12) : Con E mX6_mayFollow 1 0 0 [.ref 20, .int (nI zs), .int (nI zt)] h (fun r h' => r = some (.int (bI (fopB (h.2.1 22) 0 (-4) zs zt = true))) ∧ h' = h) := by
  refine con_of2 (L := [some (.ref 20), some (.int (nI zs)), some (.int (nI zt))]) rfl (Nat.le_of_ble_eq_true rfl) rfl ?_
  refine ev_iload_n (pc := 0) dX6_mayFollow_0 rfl ?_
  refine ev_iload_n (pc := 1) dX6_mayFollow_1 rfl ?_
  refine ev_callSv (S := []) (pc := 2) dX6_mayFollow_2 kX10_has lX6_42 sX10_has (cn_X10_has E h (nI zs) (nI zt)) rfl rfl (Nat.le_of_ble_eq_true rfl) ⟨Nat.le_of_ble_eq_true rfl, Nat.le_of_ble_eq_true rfl⟩ ⟨Nat.le_of_ble_eq_true rfl, Nat.le_of_ble_eq_true rfl⟩ ?_
  refine ev_if_ne (pc := 5) (tgt := 25) dX6_mayFollow_5 (by decide) (fun zc5 => ?_) (fun zc5 => ?_)
  · -- ne at 5: taken
    refine ev_iconst (pc := 25) (v := 0) dX6_mayFollow_25 (by decide) ?_
    refine ev_iret (pc := 26) dX6_mayFollow_26 rfl ?_ ?_
    · first | rfl | exact nar_bI _ | (simp only [*]; exact nar_bI _) | (simp [narrow, *]; done)
    · refine ⟨?_, rfl⟩
      rw [bI_f (fun z => bI_n0.mp zc5 ((fop_mf ht).mp z).1)]
  · -- ne at 5: not taken
    refine ev_aload_n (pc := 8) dX6_mayFollow_8 rfl ?_
    refine ev_getR (pc := 9) (q := 22) dX6_mayFollow_9 fX6_15 rfl (wlt hw (by decide)) (wr hw rfl) ?_
    refine ev_iload_n (pc := 12) dX6_mayFollow_12 rfl ?_
    refine ev_iald (pc := 13) dX6_mayFollow_13 rfl (wlt hw (by decide)) (vp_in_nI (by omega) (by decide)) ?_
    refine ev_eqI (e' := h.2.1 22 zt) (by rw [show Int32.toNatClampNeg (nI zt) = zt from nI_clamp (by omega)] <;> rfl) ?_
    refine ev_iload_n (pc := 14) dX6_mayFollow_14 rfl ?_
    refine ev_iconst (pc := 15) (v := (-1)) dX6_mayFollow_15 (by decide) ?_
    refine ev_ixor (pc := 16) dX6_mayFollow_16 ?_
    refine ev_iand (pc := 17) dX6_mayFollow_17 ?_
    refine ev_if_ne (pc := 18) (tgt := 25) dX6_mayFollow_18 (by decide) (fun zc18 => ?_) (fun zc18 => ?_)
    · -- ne at 18: taken
      refine ev_iconst (pc := 25) (v := 0) dX6_mayFollow_25 (by decide) ?_
      refine ev_iret (pc := 26) dX6_mayFollow_26 rfl ?_ ?_
      · first | rfl | exact nar_bI _ | (simp only [*]; exact nar_bI _) | (simp [narrow, *]; done)
      · refine ⟨?_, rfl⟩
        rw [bI_f (fun z => zc18 ((fop_mf ht).mp z).2)]
    · -- ne at 18: not taken
      refine ev_iconst (pc := 21) (v := 1) dX6_mayFollow_21 (by decide) ?_
      refine ev_goto (pc := 22) (tgt := 26) dX6_mayFollow_22 (by decide) ?_
      refine ev_iret (pc := 26) dX6_mayFollow_26 rfl ?_ ?_
      · first | rfl | exact nar_bI _ | (simp only [*]; exact nar_bI _) | (simp [narrow, *]; done)
      · refine ⟨?_, rfl⟩
        rw [bI_t ((fop_mf ht).mpr ⟨Decidable.not_not.mp (bI_0.mp zc5), zc18⟩)]
theorem lp_cw_19 (E : ME) (h : AH) (m : Nat) (zf zg : Nat → Int32) (hw : WF h) (hm : h.2.1 20 4 = nI m) (hm2 : m ≤ 12) {post : PO} (K : Ev E mX6_countWays (rmm 2 0 0) (QM E 0 0 post) 0 0 44 [some (.ref 20), some (.int (nI (2 ^ m - 1))), some (.int (nI (2 ^ m))), none] [] (sI (sI h 23 (zrF zf (2 ^ m))) 24 (zrF zg (2 ^ m)))) : ∀ n i : Nat, i + n = (2 ^ m) → Ev E mX6_countWays (rmm 2 0 0) (QM E 0 0 post) 0 0 19 [some (.ref 20), some (.int (nI (2 ^ m - 1))), some (.int (nI i)), none] [] (sI (sI h 23 (zrF zf i)) 24 (zrF zg i)) := by
  intro n
  induction n with
  | zero =>
    intro i hi
    obtain rfl : (2 ^ m) = i := by omega
    refine ev_iload_n (pc := 19) dX6_countWays_19 rfl ?_
    refine ev_iload_n (pc := 20) dX6_countWays_20 rfl ?_
    refine ev_icmp_gt (pc := 21) (tgt := 44) dX6_countWays_21 (by decide) (fun zc21 => ?_) (fun zc21 => absurd (nI_lt (by have z1 := pw_le hm2; omega) (by have z1 := pw_le hm2; omega)) zc21)
    exact K
  | succ n ih =>
    intro i hi
    have hlt : i < (2 ^ m) := by omega
    refine ev_iload_n (pc := 19) dX6_countWays_19 rfl ?_
    refine ev_iload_n (pc := 20) dX6_countWays_20 rfl ?_
    refine ev_icmp_gt (pc := 21) (tgt := 44) dX6_countWays_21 (by decide) (fun zc21 => absurd zc21 (nI_nlt (by have z1 := pw_le hm2; omega) (by have z1 := pw_le hm2; omega))) (fun zc21 => ?_)
    refine ev_aload_n (pc := 24) dX6_countWays_24 rfl ?_
    refine ev_getR (pc := 25) (q := 23) dX6_countWays_25 fX6_18 rfl (wlt (wf_sI (wf_sI hw)) (by decide)) (wr (wf_sI (wf_sI hw)) rfl) ?_
    refine ev_iload_n (pc := 28) dX6_countWays_28 rfl ?_
    refine ev_iconst (pc := 29) (v := 0) dX6_countWays_29 (by decide) ?_
    refine ev_iast (pc := 30) dX6_countWays_30 rfl (wlt (wf_sI (wf_sI hw)) (by decide)) (vp_in_nI (by have z1 := pw_le hm2; omega) (by decide)) ?_
    refine ev_eqH (h' := sI (sI h 23 (upd (zrF zf i) i 0)) 24 (zrF zg i)) (by rw [show Int32.toNatClampNeg (nI i) = i from nI_clamp (by have z1 := pw_le hm2; omega)]; exact sI_dp _ (by decide) _ _ _) ?_
    refine ev_aload_n (pc := 31) dX6_countWays_31 rfl ?_
    refine ev_getR (pc := 32) (q := 24) dX6_countWays_32 fX6_21 rfl (wlt (wf_sI (wf_sI hw)) (by decide)) (wr (wf_sI (wf_sI hw)) rfl) ?_
    refine ev_iload_n (pc := 35) dX6_countWays_35 rfl ?_
    refine ev_iconst (pc := 36) (v := 0) dX6_countWays_36 (by decide) ?_
    refine ev_iast (pc := 37) dX6_countWays_37 rfl (wlt (wf_sI (wf_sI hw)) (by decide)) (vp_in_nI (by have z1 := pw_le hm2; omega) (by decide)) ?_
    refine ev_eqH (h' := sI (sI h 23 (upd (zrF zf i) i 0)) 24 (upd (zrF zg i) i 0)) (by rw [show Int32.toNatClampNeg (nI i) = i from nI_clamp (by have z1 := pw_le hm2; omega)]; exact sI_sI _ _ _ _) ?_
    refine ev_iinc (pc := 38) (v := nI (i + 1)) (L' := [some (.ref 20), some (.int (nI (2 ^ m - 1))), some (.int (nI (i + 1))), none]) dX6_countWays_38 rfl (nI_1 _) (Nat.le_of_ble_eq_true rfl) rfl ?_
    refine ev_goto (pc := 41) (tgt := 19) dX6_countWays_41 (by decide) ?_
    exact ih (i + 1) (by omega)
theorem lp_cw_60 (E : ME) (h : AH) (m zs : Nat) (zf zg : Nat → Int32) (hw : WF h) (hm : h.2.1 20 4 = nI m) (hm2 : m ≤ 12) (hs : zs < 2 ^ m) (hp : ¬ zf zs ≤ 0) {post : PO} (K : Ev E mX6_countWays (rmm 2 0 0) (QM E 0 0 post) 0 0 111 [some (.ref 20), some (.int (nI (2 ^ m - 1))), some (.int (nI zs)), some (.int (nI m))] [] (sI (sI h 23 (fwT (h.2.1 22) zs zf m)) 24 zg)) : ∀ n i : Nat, i + n = m → Ev E mX6_countWays (rmm 2 0 0) (QM E 0 0 post) 0 0 60 [some (.ref 20), some (.int (nI (2 ^ m - 1))), some (.int (nI zs)), some (.int (nI i))] [] (sI (sI h 23 (fwT (h.2.1 22) zs zf i)) 24 zg) := by
  intro n
  induction n with
  | zero =>
    intro i hi
    obtain rfl : m = i := by omega
    refine ev_iload_n (pc := 60) dX6_countWays_60 rfl ?_
    refine ev_aload_n (pc := 61) dX6_countWays_61 rfl ?_
    refine ev_getI (pc := 62) dX6_countWays_62 fX6_36 rfl (wlt (wf_sI (wf_sI hw)) (by decide)) ?_
    refine ev_eqI (e' := h.2.1 20 4) (by rfl) ?_
    refine ev_eqI (e' := nI m) hm ?_
    refine ev_icmp_ge (pc := 65) (tgt := 111) dX6_countWays_65 (by decide) (fun zc65 => ?_) (fun zc65 => absurd (nI_le (Nat.le_refl _) (by omega)) zc65)
    exact K
  | succ n ih =>
    intro i hi
    have hlt : i < m := by omega
    refine ev_iload_n (pc := 60) dX6_countWays_60 rfl ?_
    refine ev_aload_n (pc := 61) dX6_countWays_61 rfl ?_
    refine ev_getI (pc := 62) dX6_countWays_62 fX6_36 rfl (wlt (wf_sI (wf_sI hw)) (by decide)) ?_
    refine ev_eqI (e' := h.2.1 20 4) (by rfl) ?_
    refine ev_eqI (e' := nI m) hm ?_
    refine ev_icmp_ge (pc := 65) (tgt := 111) dX6_countWays_65 (by decide) (fun zc65 => absurd zc65 (nI_ge hlt (by omega))) (fun zc65 => ?_)
    refine ev_aload_n (pc := 68) dX6_countWays_68 rfl ?_
    refine ev_getR (pc := 69) (q := 23) dX6_countWays_69 fX6_18 rfl (wlt (wf_sI (wf_sI hw)) (by decide)) (wr (wf_sI (wf_sI hw)) rfl) ?_
    refine ev_iload_n (pc := 72) dX6_countWays_72 rfl ?_
    refine ev_iald (pc := 73) dX6_countWays_73 rfl (wlt (wf_sI (wf_sI hw)) (by decide)) (vp_in_nI (by have z1 := pw_le hm2; omega) (by decide)) ?_
    refine ev_eqI (e' := (fwT (h.2.1 22) zs zf i) zs) (by rw [show Int32.toNatClampNeg (nI zs) = zs from nI_clamp (by have z1 := pw_le hm2; omega)] <;> rfl) ?_
    refine ev_if_le (pc := 74) (tgt := 111) dX6_countWays_74 (by decide) (fun zc74 => absurd zc74 (by rw [fwT_s _ _ _ _ (by omega)]; exact hp)) (fun zc74 => ?_)
    refine ev_aload_n (pc := 77) dX6_countWays_77 rfl ?_
    refine ev_iload_n (pc := 78) dX6_countWays_78 rfl ?_
    refine ev_iload_n (pc := 79) dX6_countWays_79 rfl ?_
    refine ev_callVv (S := []) (pc := 80) dX6_countWays_80 kX6_mayFollow lX6_60 vX6_mayFollow (cn_X6_mayFollow E (sI (sI h 23 (fwT (h.2.1 22) zs zf i)) 24 zg) zs i (wf_sI (wf_sI hw)) (by omega)) rfl rfl (wlt (wf_sI (wf_sI hw)) (by decide)) rfl rfl (Nat.le_of_ble_eq_true rfl) ⟨Nat.le_of_ble_eq_true rfl, Nat.le_of_ble_eq_true rfl⟩ ⟨Nat.le_of_ble_eq_true rfl, Nat.le_of_ble_eq_true rfl⟩ ?_
    refine ev_if_eq (pc := 83) (tgt := 105) dX6_countWays_83 (by decide) (fun zc83 => ?_) (fun zc83 => ?_)
    · -- eq at 83: taken
      refine ev_iinc (pc := 105) (v := nI (i + 1)) (L' := [some (.ref 20), some (.int (nI (2 ^ m - 1))), some (.int (nI zs)), some (.int (nI (i + 1)))]) dX6_countWays_105 rfl (nI_1 _) (Nat.le_of_ble_eq_true rfl) rfl ?_
      refine ev_goto (pc := 108) (tgt := 60) dX6_countWays_108 (by decide) ?_
      refine ev_eqH (h' := sI (sI h 23 (fwT (h.2.1 22) zs zf (i + 1))) 24 zg) (by simp only [fwT]; first | rw [if_pos (show fopB (h.2.1 22) 0 (-4) zs i = true from bI_n0.mp zc83)] | rw [if_neg (show ¬ fopB (h.2.1 22) 0 (-4) zs i = true from bI_0.mp zc83)]) ?_
      exact ih (i + 1) (by omega)
    · -- eq at 83: not taken
      refine ev_aload_n (pc := 86) dX6_countWays_86 rfl ?_
      refine ev_getR (pc := 87) (q := 23) dX6_countWays_87 fX6_18 rfl (wlt (wf_sI (wf_sI hw)) (by decide)) (wr (wf_sI (wf_sI hw)) rfl) ?_
      refine ev_iload_n (pc := 90) dX6_countWays_90 rfl ?_
      refine ev_iconst (pc := 91) (v := 1) dX6_countWays_91 (by decide) ?_
      refine ev_iload_n (pc := 92) dX6_countWays_92 rfl ?_
      refine ev_ishl (pc := 93) dX6_countWays_93 ?_
      refine ev_ior (pc := 94) dX6_countWays_94 ?_
      refine ev_eqI (e' := nI (zs ||| 2 ^ i)) (by rw [sh_pow i (by omega)]; exact fa_or _ _) ?_
      refine ev_dup2 (pc := 95) dX6_countWays_95 rfl rfl ?_
      refine ev_iald (pc := 96) dX6_countWays_96 rfl (wlt (wf_sI (wf_sI hw)) (by decide)) (vp_in_nI (by have z1 := pw_le hm2; have z2 := or_lt hs hlt; omega) (by decide)) ?_
      refine ev_eqI (e' := (fwT (h.2.1 22) zs zf i) (zs ||| 2 ^ i)) (by rw [show Int32.toNatClampNeg (nI (zs ||| 2 ^ i)) = (zs ||| 2 ^ i) from nI_clamp (by have z1 := pw_le hm2; have z2 := or_lt hs hlt; omega)] <;> rfl) ?_
      refine ev_aload_n (pc := 97) dX6_countWays_97 rfl ?_
      refine ev_getR (pc := 98) (q := 23) dX6_countWays_98 fX6_18 rfl (wlt (wf_sI (wf_sI hw)) (by decide)) (wr (wf_sI (wf_sI hw)) rfl) ?_
      refine ev_iload_n (pc := 101) dX6_countWays_101 rfl ?_
      refine ev_iald (pc := 102) dX6_countWays_102 rfl (wlt (wf_sI (wf_sI hw)) (by decide)) (vp_in_nI (by have z1 := pw_le hm2; omega) (by decide)) ?_
      refine ev_eqI (e' := (fwT (h.2.1 22) zs zf i) zs) (by rw [show Int32.toNatClampNeg (nI zs) = zs from nI_clamp (by have z1 := pw_le hm2; omega)] <;> rfl) ?_
      refine ev_iadd (pc := 103) dX6_countWays_103 ?_
      refine ev_iast (pc := 104) dX6_countWays_104 rfl (wlt (wf_sI (wf_sI hw)) (by decide)) (vp_in_nI (by have z1 := pw_le hm2; have z2 := or_lt hs hlt; omega) (by decide)) ?_
      refine ev_eqH (h' := sI (sI h 23 (upd (fwT (h.2.1 22) zs zf i) (zs ||| 2 ^ i) (((fwT (h.2.1 22) zs zf i) (zs ||| 2 ^ i)) + ((fwT (h.2.1 22) zs zf i) zs)))) 24 zg) (by rw [show Int32.toNatClampNeg (nI (zs ||| 2 ^ i)) = (zs ||| 2 ^ i) from nI_clamp (by have z1 := pw_le hm2; have z2 := or_lt hs hlt; omega)]; exact sI_dp _ (by decide) _ _ _) ?_
      refine ev_iinc (pc := 105) (v := nI (i + 1)) (L' := [some (.ref 20), some (.int (nI (2 ^ m - 1))), some (.int (nI zs)), some (.int (nI (i + 1)))]) dX6_countWays_105 rfl (nI_1 _) (Nat.le_of_ble_eq_true rfl) rfl ?_
      refine ev_goto (pc := 108) (tgt := 60) dX6_countWays_108 (by decide) ?_
      refine ev_eqH (h' := sI (sI h 23 (fwT (h.2.1 22) zs zf (i + 1))) 24 zg) (by simp only [fwT]; first | rw [if_pos (show fopB (h.2.1 22) 0 (-4) zs i = true from bI_n0.mp zc83)] | rw [if_neg (show ¬ fopB (h.2.1 22) 0 (-4) zs i = true from bI_0.mp zc83)]) ?_
      exact ih (i + 1) (by omega)
theorem lp_cw_60w (E : ME) (h : AH) (m zs : Nat) (zf zg : Nat → Int32) (hw : WF h) (hm : h.2.1 20 4 = nI m) (hm2 : m ≤ 12) (hs : zs < 2 ^ m) {post : PO} (K : Ev E mX6_countWays (rmm 2 0 0) (QM E 0 0 post) 0 0 111 [some (.ref 20), some (.int (nI (2 ^ m - 1))), some (.int (nI zs)), none] [] (sI (sI h 23 (if zf zs ≤ 0 then zf else fwT (h.2.1 22) zs zf m)) 24 zg)) : Ev E mX6_countWays (rmm 2 0 0) (QM E 0 0 post) 0 0 60 [some (.ref 20), some (.int (nI (2 ^ m - 1))), some (.int (nI zs)), some (.int 0)] [] (sI (sI h 23 zf) 24 zg) := by
  by_cases hp : zf zs ≤ 0
  · rw [if_pos hp] at K
    refine ev_iload_n (pc := 60) dX6_countWays_60 rfl ?_
    refine ev_aload_n (pc := 61) dX6_countWays_61 rfl ?_
    refine ev_getI (pc := 62) dX6_countWays_62 fX6_36 rfl (wlt (wf_sI (wf_sI hw)) (by decide)) ?_
    refine ev_eqI (e' := h.2.1 20 4) (by rfl) ?_
    refine ev_eqI (e' := nI m) hm ?_
    refine ev_icmp_ge (pc := 65) (tgt := 111) dX6_countWays_65 (by decide) (fun zc65 => ?_) (fun zc65 => ?_)
    · -- ge at 65: taken
      refine ev_less (L' := [some (.ref 20), some (.int (nI (2 ^ m - 1))), some (.int (nI zs)), none]) (ls_keep (ls_keep (ls_keep (ls_drop (ls_nil _))))) ?_
      exact K
    · -- ge at 65: not taken
      refine ev_aload_n (pc := 68) dX6_countWays_68 rfl ?_
      refine ev_getR (pc := 69) (q := 23) dX6_countWays_69 fX6_18 rfl (wlt (wf_sI (wf_sI hw)) (by decide)) (wr (wf_sI (wf_sI hw)) rfl) ?_
      refine ev_iload_n (pc := 72) dX6_countWays_72 rfl ?_
      refine ev_iald (pc := 73) dX6_countWays_73 rfl (wlt (wf_sI (wf_sI hw)) (by decide)) (vp_in_nI (by have z1 := pw_le hm2; omega) (by decide)) ?_
      refine ev_eqI (e' := zf zs) (by rw [show Int32.toNatClampNeg (nI zs) = zs from nI_clamp (by have z1 := pw_le hm2; omega)] <;> rfl) ?_
      refine ev_if_le (pc := 74) (tgt := 111) dX6_countWays_74 (by decide) (fun zc74 => ?_) (fun zc74 => absurd hp zc74)
      refine ev_less (L' := [some (.ref 20), some (.int (nI (2 ^ m - 1))), some (.int (nI zs)), none]) (ls_keep (ls_keep (ls_keep (ls_drop (ls_nil _))))) ?_
      exact K
  · rw [if_neg hp] at K
    refine lp_cw_60 E h m zs zf zg hw hm hm2 hs hp ?_ m 0 (Nat.zero_add _)
    exact ev_less (ls_keep (ls_keep (ls_keep (ls_drop (ls_nil _))))) K
theorem lp_cw_53 (E : ME) (h : AH) (m : Nat) (zf zg : Nat → Int32) (hw : WF h) (hm : h.2.1 20 4 = nI m) (hm2 : m ≤ 12) {post : PO} (K : Ev E mX6_countWays (rmm 2 0 0) (QM E 0 0 post) 0 0 117 [some (.ref 20), some (.int (nI (2 ^ m - 1))), some (.int (nI (2 ^ m))), none] [] (sI (sI h 23 (fwS (h.2.1 22) m zf (2 ^ m))) 24 zg)) : ∀ n i : Nat, i + n = (2 ^ m) → Ev E mX6_countWays (rmm 2 0 0) (QM E 0 0 post) 0 0 53 [some (.ref 20), some (.int (nI (2 ^ m - 1))), some (.int (nI i)), none] [] (sI (sI h 23 (fwS (h.2.1 22) m zf i)) 24 zg) := by
  intro n
  induction n with
  | zero =>
    intro i hi
    obtain rfl : (2 ^ m) = i := by omega
    refine ev_iload_n (pc := 53) dX6_countWays_53 rfl ?_
    refine ev_iload_n (pc := 54) dX6_countWays_54 rfl ?_
    refine ev_icmp_gt (pc := 55) (tgt := 117) dX6_countWays_55 (by decide) (fun zc55 => ?_) (fun zc55 => absurd (nI_lt (by have z1 := pw_le hm2; omega) (by have z1 := pw_le hm2; omega)) zc55)
    exact K
  | succ n ih =>
    intro i hi
    have hlt : i < (2 ^ m) := by omega
    refine ev_iload_n (pc := 53) dX6_countWays_53 rfl ?_
    refine ev_iload_n (pc := 54) dX6_countWays_54 rfl ?_
    refine ev_icmp_gt (pc := 55) (tgt := 117) dX6_countWays_55 (by decide) (fun zc55 => absurd zc55 (nI_nlt (by have z1 := pw_le hm2; omega) (by have z1 := pw_le hm2; omega))) (fun zc55 => ?_)
    refine ev_iconst (pc := 58) (v := 0) dX6_countWays_58 (by decide) ?_
    refine ev_istore_n (pc := 59) (L' := [some (.ref 20), some (.int (nI (2 ^ m - 1))), some (.int (nI i)), some (.int 0)]) dX6_countWays_59 (Nat.le_of_ble_eq_true rfl) rfl ?_
    refine lp_cw_60w E h m i (fwS (h.2.1 22) m zf i) zg hw hm hm2 hlt ?_
    refine ev_iinc (pc := 111) (v := nI (i + 1)) (L' := [some (.ref 20), some (.int (nI (2 ^ m - 1))), some (.int (nI (i + 1))), none]) dX6_countWays_111 rfl (nI_1 _) (Nat.le_of_ble_eq_true rfl) rfl ?_
    refine ev_goto (pc := 114) (tgt := 53) dX6_countWays_114 (by decide) ?_
    exact ih (i + 1) (by omega)
theorem lp_cw_134 (E : ME) (h : AH) (m zs : Nat) (zf zg : Nat → Int32) (hw : WF h) (hm : h.2.1 20 4 = nI m) (hm2 : m ≤ 12) (hs : zs < 2 ^ m) (hp : ¬ zf zs ≤ 0) {post : PO} (K : Ev E mX6_countWays (rmm 2 0 0) (QM E 0 0 post) 0 0 185 [some (.ref 20), some (.int (nI (2 ^ m - 1))), some (.int (nI zs)), some (.int (nI m))] [] (sI (sI h 23 zf) 24 (bwT (h.2.1 22) zs zg m))) : ∀ n i : Nat, i + n = m → Ev E mX6_countWays (rmm 2 0 0) (QM E 0 0 post) 0 0 134 [some (.ref 20), some (.int (nI (2 ^ m - 1))), some (.int (nI zs)), some (.int (nI i))] [] (sI (sI h 23 zf) 24 (bwT (h.2.1 22) zs zg i)) := by
  intro n
  induction n with
  | zero =>
    intro i hi
    obtain rfl : m = i := by omega
    refine ev_iload_n (pc := 134) dX6_countWays_134 rfl ?_
    refine ev_aload_n (pc := 135) dX6_countWays_135 rfl ?_
    refine ev_getI (pc := 136) dX6_countWays_136 fX6_36 rfl (wlt (wf_sI (wf_sI hw)) (by decide)) ?_
    refine ev_eqI (e' := h.2.1 20 4) (by rfl) ?_
    refine ev_eqI (e' := nI m) hm ?_
    refine ev_icmp_ge (pc := 139) (tgt := 185) dX6_countWays_139 (by decide) (fun zc139 => ?_) (fun zc139 => absurd (nI_le (Nat.le_refl _) (by omega)) zc139)
    exact K
  | succ n ih =>
    intro i hi
    have hlt : i < m := by omega
    refine ev_iload_n (pc := 134) dX6_countWays_134 rfl ?_
    refine ev_aload_n (pc := 135) dX6_countWays_135 rfl ?_
    refine ev_getI (pc := 136) dX6_countWays_136 fX6_36 rfl (wlt (wf_sI (wf_sI hw)) (by decide)) ?_
    refine ev_eqI (e' := h.2.1 20 4) (by rfl) ?_
    refine ev_eqI (e' := nI m) hm ?_
    refine ev_icmp_ge (pc := 139) (tgt := 185) dX6_countWays_139 (by decide) (fun zc139 => absurd zc139 (nI_ge hlt (by omega))) (fun zc139 => ?_)
    refine ev_aload_n (pc := 142) dX6_countWays_142 rfl ?_
    refine ev_getR (pc := 143) (q := 23) dX6_countWays_143 fX6_18 rfl (wlt (wf_sI (wf_sI hw)) (by decide)) (wr (wf_sI (wf_sI hw)) rfl) ?_
    refine ev_iload_n (pc := 146) dX6_countWays_146 rfl ?_
    refine ev_iald (pc := 147) dX6_countWays_147 rfl (wlt (wf_sI (wf_sI hw)) (by decide)) (vp_in_nI (by have z1 := pw_le hm2; omega) (by decide)) ?_
    refine ev_eqI (e' := zf zs) (by rw [show Int32.toNatClampNeg (nI zs) = zs from nI_clamp (by have z1 := pw_le hm2; omega)] <;> rfl) ?_
    refine ev_if_le (pc := 148) (tgt := 185) dX6_countWays_148 (by decide) (fun zc148 => absurd zc148 hp) (fun zc148 => ?_)
    refine ev_aload_n (pc := 151) dX6_countWays_151 rfl ?_
    refine ev_iload_n (pc := 152) dX6_countWays_152 rfl ?_
    refine ev_iload_n (pc := 153) dX6_countWays_153 rfl ?_
    refine ev_callVv (S := []) (pc := 154) dX6_countWays_154 kX6_mayFollow lX6_60 vX6_mayFollow (cn_X6_mayFollow E (sI (sI h 23 zf) 24 (bwT (h.2.1 22) zs zg i)) zs i (wf_sI (wf_sI hw)) (by omega)) rfl rfl (wlt (wf_sI (wf_sI hw)) (by decide)) rfl rfl (Nat.le_of_ble_eq_true rfl) ⟨Nat.le_of_ble_eq_true rfl, Nat.le_of_ble_eq_true rfl⟩ ⟨Nat.le_of_ble_eq_true rfl, Nat.le_of_ble_eq_true rfl⟩ ?_
    refine ev_if_eq (pc := 157) (tgt := 179) dX6_countWays_157 (by decide) (fun zc157 => ?_) (fun zc157 => ?_)
    · -- eq at 157: taken
      refine ev_iinc (pc := 179) (v := nI (i + 1)) (L' := [some (.ref 20), some (.int (nI (2 ^ m - 1))), some (.int (nI zs)), some (.int (nI (i + 1)))]) dX6_countWays_179 rfl (nI_1 _) (Nat.le_of_ble_eq_true rfl) rfl ?_
      refine ev_goto (pc := 182) (tgt := 134) dX6_countWays_182 (by decide) ?_
      refine ev_eqH (h' := sI (sI h 23 zf) 24 (bwT (h.2.1 22) zs zg (i + 1))) (by simp only [bwT]; first | rw [if_pos (show fopB (h.2.1 22) 0 (-4) zs i = true from bI_n0.mp zc157)] | rw [if_neg (show ¬ fopB (h.2.1 22) 0 (-4) zs i = true from bI_0.mp zc157)]) ?_
      exact ih (i + 1) (by omega)
    · -- eq at 157: not taken
      refine ev_aload_n (pc := 160) dX6_countWays_160 rfl ?_
      refine ev_getR (pc := 161) (q := 24) dX6_countWays_161 fX6_21 rfl (wlt (wf_sI (wf_sI hw)) (by decide)) (wr (wf_sI (wf_sI hw)) rfl) ?_
      refine ev_iload_n (pc := 164) dX6_countWays_164 rfl ?_
      refine ev_dup2 (pc := 165) dX6_countWays_165 rfl rfl ?_
      refine ev_iald (pc := 166) dX6_countWays_166 rfl (wlt (wf_sI (wf_sI hw)) (by decide)) (vp_in_nI (by have z1 := pw_le hm2; omega) (by decide)) ?_
      refine ev_eqI (e' := (bwT (h.2.1 22) zs zg i) zs) (by rw [show Int32.toNatClampNeg (nI zs) = zs from nI_clamp (by have z1 := pw_le hm2; omega)] <;> rfl) ?_
      refine ev_aload_n (pc := 167) dX6_countWays_167 rfl ?_
      refine ev_getR (pc := 168) (q := 24) dX6_countWays_168 fX6_21 rfl (wlt (wf_sI (wf_sI hw)) (by decide)) (wr (wf_sI (wf_sI hw)) rfl) ?_
      refine ev_iload_n (pc := 171) dX6_countWays_171 rfl ?_
      refine ev_iconst (pc := 172) (v := 1) dX6_countWays_172 (by decide) ?_
      refine ev_iload_n (pc := 173) dX6_countWays_173 rfl ?_
      refine ev_ishl (pc := 174) dX6_countWays_174 ?_
      refine ev_ior (pc := 175) dX6_countWays_175 ?_
      refine ev_eqI (e' := nI (zs ||| 2 ^ i)) (by rw [sh_pow i (by omega)]; exact fa_or _ _) ?_
      refine ev_iald (pc := 176) dX6_countWays_176 rfl (wlt (wf_sI (wf_sI hw)) (by decide)) (vp_in_nI (by have z1 := pw_le hm2; have z2 := or_lt hs hlt; omega) (by decide)) ?_
      refine ev_eqI (e' := (bwT (h.2.1 22) zs zg i) (zs ||| 2 ^ i)) (by rw [show Int32.toNatClampNeg (nI (zs ||| 2 ^ i)) = (zs ||| 2 ^ i) from nI_clamp (by have z1 := pw_le hm2; have z2 := or_lt hs hlt; omega)] <;> rfl) ?_
      refine ev_iadd (pc := 177) dX6_countWays_177 ?_
      refine ev_iast (pc := 178) dX6_countWays_178 rfl (wlt (wf_sI (wf_sI hw)) (by decide)) (vp_in_nI (by have z1 := pw_le hm2; omega) (by decide)) ?_
      refine ev_eqH (h' := sI (sI h 23 zf) 24 (upd (bwT (h.2.1 22) zs zg i) zs (((bwT (h.2.1 22) zs zg i) zs) + ((bwT (h.2.1 22) zs zg i) (zs ||| 2 ^ i))))) (by rw [show Int32.toNatClampNeg (nI zs) = zs from nI_clamp (by have z1 := pw_le hm2; omega)]; exact sI_sI _ _ _ _) ?_
      refine ev_iinc (pc := 179) (v := nI (i + 1)) (L' := [some (.ref 20), some (.int (nI (2 ^ m - 1))), some (.int (nI zs)), some (.int (nI (i + 1)))]) dX6_countWays_179 rfl (nI_1 _) (Nat.le_of_ble_eq_true rfl) rfl ?_
      refine ev_goto (pc := 182) (tgt := 134) dX6_countWays_182 (by decide) ?_
      refine ev_eqH (h' := sI (sI h 23 zf) 24 (bwT (h.2.1 22) zs zg (i + 1))) (by simp only [bwT]; first | rw [if_pos (show fopB (h.2.1 22) 0 (-4) zs i = true from bI_n0.mp zc157)] | rw [if_neg (show ¬ fopB (h.2.1 22) 0 (-4) zs i = true from bI_0.mp zc157)]) ?_
      exact ih (i + 1) (by omega)
theorem lp_cw_134w (E : ME) (h : AH) (m zs : Nat) (zf zg : Nat → Int32) (hw : WF h) (hm : h.2.1 20 4 = nI m) (hm2 : m ≤ 12) (hs : zs < 2 ^ m) {post : PO} (K : Ev E mX6_countWays (rmm 2 0 0) (QM E 0 0 post) 0 0 185 [some (.ref 20), some (.int (nI (2 ^ m - 1))), some (.int (nI zs)), none] [] (sI (sI h 23 zf) 24 (if zf zs ≤ 0 then zg else bwT (h.2.1 22) zs zg m))) : Ev E mX6_countWays (rmm 2 0 0) (QM E 0 0 post) 0 0 134 [some (.ref 20), some (.int (nI (2 ^ m - 1))), some (.int (nI zs)), some (.int 0)] [] (sI (sI h 23 zf) 24 zg) := by
  by_cases hp : zf zs ≤ 0
  · rw [if_pos hp] at K
    refine ev_iload_n (pc := 134) dX6_countWays_134 rfl ?_
    refine ev_aload_n (pc := 135) dX6_countWays_135 rfl ?_
    refine ev_getI (pc := 136) dX6_countWays_136 fX6_36 rfl (wlt (wf_sI (wf_sI hw)) (by decide)) ?_
    refine ev_eqI (e' := h.2.1 20 4) (by rfl) ?_
    refine ev_eqI (e' := nI m) hm ?_
    refine ev_icmp_ge (pc := 139) (tgt := 185) dX6_countWays_139 (by decide) (fun zc139 => ?_) (fun zc139 => ?_)
    · -- ge at 139: taken
      refine ev_less (L' := [some (.ref 20), some (.int (nI (2 ^ m - 1))), some (.int (nI zs)), none]) (ls_keep (ls_keep (ls_keep (ls_drop (ls_nil _))))) ?_
      exact K
    · -- ge at 139: not taken
      refine ev_aload_n (pc := 142) dX6_countWays_142 rfl ?_
      refine ev_getR (pc := 143) (q := 23) dX6_countWays_143 fX6_18 rfl (wlt (wf_sI (wf_sI hw)) (by decide)) (wr (wf_sI (wf_sI hw)) rfl) ?_
      refine ev_iload_n (pc := 146) dX6_countWays_146 rfl ?_
      refine ev_iald (pc := 147) dX6_countWays_147 rfl (wlt (wf_sI (wf_sI hw)) (by decide)) (vp_in_nI (by have z1 := pw_le hm2; omega) (by decide)) ?_
      refine ev_eqI (e' := zf zs) (by rw [show Int32.toNatClampNeg (nI zs) = zs from nI_clamp (by have z1 := pw_le hm2; omega)] <;> rfl) ?_
      refine ev_if_le (pc := 148) (tgt := 185) dX6_countWays_148 (by decide) (fun zc148 => ?_) (fun zc148 => absurd hp zc148)
      refine ev_less (L' := [some (.ref 20), some (.int (nI (2 ^ m - 1))), some (.int (nI zs)), none]) (ls_keep (ls_keep (ls_keep (ls_drop (ls_nil _))))) ?_
      exact K
  · rw [if_neg hp] at K
    refine lp_cw_134 E h m zs zf zg hw hm hm2 hs hp ?_ m 0 (Nat.zero_add _)
    exact ev_less (ls_keep (ls_keep (ls_keep (ls_drop (ls_nil _))))) K
theorem lp_cw_128 (E : ME) (h : AH) (m : Nat) (zf zg : Nat → Int32) (hw : WF h) (hm : h.2.1 20 4 = nI m) (hm2 : m ≤ 12) {post : PO} (K : Ev E mX6_countWays (rmm 2 0 0) (QM E 0 0 post) 0 0 191 [some (.ref 20), some (.int (nI (2 ^ m - 1))), some (.int (nI 0 - 1)), none] [] (sI (sI h 23 zf) 24 (bwS (h.2.1 22) m zf zg (2 ^ m - 1)))) : ∀ zt zj : Nat, zt + zj = 2 ^ m - 1 → Ev E mX6_countWays (rmm 2 0 0) (QM E 0 0 post) 0 0 128 [some (.ref 20), some (.int (nI (2 ^ m - 1))), some (.int (nI zt - 1)), none] [] (sI (sI h 23 zf) 24 (bwS (h.2.1 22) m zf zg zj)) := by
  intro zt
  induction zt with
  | zero =>
    intro zj hj
    obtain rfl : zj = 2 ^ m - 1 := by omega
    refine ev_iload_n (pc := 128) dX6_countWays_128 rfl ?_
    refine ev_if_lt (pc := 129) (tgt := 191) dX6_countWays_129 (by decide) (fun zc129 => ?_) (fun zc129 => absurd (by decide) zc129)
    exact K
  | succ zs ih =>
    intro zj hj
    have z1 := pw_le hm2
    have hs : zs < 2 ^ m := by omega
    refine ev_eqL (L' := [some (.ref 20), some (.int (nI (2 ^ m - 1))), some (.int (nI zs)), none]) (by rw [nI_pred]) ?_
    refine ev_iload_n (pc := 128) dX6_countWays_128 rfl ?_
    refine ev_if_lt (pc := 129) (tgt := 191) dX6_countWays_129 (by decide) (fun zc129 => absurd zc129 (nI_pos (by omega))) (fun zc129 => ?_)
    refine ev_iconst (pc := 132) (v := 0) dX6_countWays_132 (by decide) ?_
    refine ev_istore_n (pc := 133) (L' := [some (.ref 20), some (.int (nI (2 ^ m - 1))), some (.int (nI zs)), some (.int 0)]) dX6_countWays_133 (Nat.le_of_ble_eq_true rfl) rfl ?_
    refine lp_cw_134w E h m zs zf (bwS (h.2.1 22) m zf zg zj) hw hm hm2 hs ?_
    refine ev_iinc (pc := 185) (v := (nI zs) - 1) (L' := [some (.ref 20), some (.int (nI (2 ^ m - 1))), some (.int ((nI zs) - 1)), none]) dX6_countWays_185 rfl (m1_add _) (Nat.le_of_ble_eq_true rfl) rfl ?_
    refine ev_goto (pc := 188) (tgt := 128) dX6_countWays_188 (by decide) ?_
    refine ev_eqH (h' := sI (sI h 23 zf) 24 (bwS (h.2.1 22) m zf zg (zj + 1))) (by rw [bwS, show 2 ^ m - 2 - zj = zs by omega]) ?_
    exact ih (zj + 1) (by omega)
theorem cn_X6_countWays (E : ME) (h : AH) (m : Nat) (hw : WF h) (hm : h.2.1 20 4 = nI m) (hm2 : m ≤ 12) : Con E mX6_countWays 2 0 0 [.ref 20] h (fun r h' => r = none ∧ h' = cwH h m) := by
  refine con_of2 (L := [some (.ref 20), none, none, none]) rfl (Nat.le_of_ble_eq_true rfl) rfl ?_
  refine ev_aload_n (pc := 0) dX6_countWays_0 rfl ?_
  refine ev_getI (pc := 1) dX6_countWays_1 fX6_46 rfl (wlt hw (by decide)) ?_
  refine ev_if_eq (pc := 4) (tgt := 8) dX6_countWays_4 (by decide) (fun zc4 => ?_) (fun zc4 => ?_)
  · -- eq at 4: taken
    refine ev_iconst (pc := 8) (v := 1) dX6_countWays_8 (by decide) ?_
    refine ev_aload_n (pc := 9) dX6_countWays_9 rfl ?_
    refine ev_getI (pc := 10) dX6_countWays_10 fX6_36 rfl (wlt hw (by decide)) ?_
    refine ev_eqI (e' := nI m) hm ?_
    refine ev_ishl (pc := 13) dX6_countWays_13 ?_
    refine ev_iconst (pc := 14) (v := 1) dX6_countWays_14 (by decide) ?_
    refine ev_isub (pc := 15) dX6_countWays_15 ?_
    refine ev_eqI (e' := nI (2 ^ m - 1)) (sh_full m (by omega)) ?_
    refine ev_istore_n (pc := 16) (L' := [some (.ref 20), some (.int (nI (2 ^ m - 1))), none, none]) dX6_countWays_16 (Nat.le_of_ble_eq_true rfl) rfl ?_
    refine ev_iconst (pc := 17) (v := 0) dX6_countWays_17 (by decide) ?_
    refine ev_istore_n (pc := 18) (L' := [some (.ref 20), some (.int (nI (2 ^ m - 1))), some (.int 0), none]) dX6_countWays_18 (Nat.le_of_ble_eq_true rfl) rfl ?_
    refine ev_eqH (sI_id2 h) ?_
    refine lp_cw_19 E h m (h.2.1 23) (h.2.1 24) hw hm hm2 ?_ (2 ^ m) 0 (Nat.zero_add _)
    refine ev_aload_n (pc := 44) dX6_countWays_44 rfl ?_
    refine ev_getR (pc := 45) (q := 23) dX6_countWays_45 fX6_18 rfl (wlt (wf_sI (wf_sI hw)) (by decide)) (wr (wf_sI (wf_sI hw)) rfl) ?_
    refine ev_iconst (pc := 48) (v := 0) dX6_countWays_48 (by decide) ?_
    refine ev_iconst (pc := 49) (v := 1) dX6_countWays_49 (by decide) ?_
    refine ev_iast (pc := 50) dX6_countWays_50 rfl (wlt (wf_sI (wf_sI hw)) (by decide)) (vp_in_nI (n := 0) (by decide) (by decide)) ?_
    refine ev_eqH (h' := sI (sI h 23 (upd (zrF (h.2.1 23) (2 ^ m)) 0 1)) 24 (zrF (h.2.1 24) (2 ^ m))) (by rw [show Int32.toNatClampNeg 0 = 0 from (by decide)]; exact sI_dp _ (by decide) _ _ _) ?_
    refine ev_iconst (pc := 51) (v := 0) dX6_countWays_51 (by decide) ?_
    refine ev_istore_n (pc := 52) (L' := [some (.ref 20), some (.int (nI (2 ^ m - 1))), some (.int 0), none]) dX6_countWays_52 (Nat.le_of_ble_eq_true rfl) rfl ?_
    refine ev_eqH (h' := sI (sI h 23 (upd (zrF (h.2.1 23) (2 ^ m)) 0 1)) 24 (zrF (h.2.1 24) (2 ^ m))) rfl ?_
    refine lp_cw_53 E h m (upd (zrF (h.2.1 23) (2 ^ m)) 0 1) (zrF (h.2.1 24) (2 ^ m)) hw hm hm2 ?_ (2 ^ m) 0 (Nat.zero_add _)
    refine ev_aload_n (pc := 117) dX6_countWays_117 rfl ?_
    refine ev_getR (pc := 118) (q := 24) dX6_countWays_118 fX6_21 rfl (wlt (wf_sI (wf_sI hw)) (by decide)) (wr (wf_sI (wf_sI hw)) rfl) ?_
    refine ev_iload_n (pc := 121) dX6_countWays_121 rfl ?_
    refine ev_iconst (pc := 122) (v := 1) dX6_countWays_122 (by decide) ?_
    refine ev_iast (pc := 123) dX6_countWays_123 rfl (wlt (wf_sI (wf_sI hw)) (by decide)) (vp_in_nI (by have z1 := pw_le hm2; omega) (by decide)) ?_
    refine ev_eqH (h' := sI (sI h 23 (fwS (h.2.1 22) m (upd (zrF (h.2.1 23) (2 ^ m)) 0 1) (2 ^ m))) 24 (upd (zrF (h.2.1 24) (2 ^ m)) (2 ^ m - 1) 1)) (by rw [show Int32.toNatClampNeg (nI (2 ^ m - 1)) = (2 ^ m - 1) from nI_clamp (by have z1 := pw_le hm2; omega)]; exact sI_sI _ _ _ _) ?_
    refine ev_iload_n (pc := 124) dX6_countWays_124 rfl ?_
    refine ev_iconst (pc := 125) (v := 1) dX6_countWays_125 (by decide) ?_
    refine ev_isub (pc := 126) dX6_countWays_126 ?_
    refine ev_istore_n (pc := 127) (L' := [some (.ref 20), some (.int (nI (2 ^ m - 1))), some (.int ((nI (2 ^ m - 1)) - 1)), none]) dX6_countWays_127 (Nat.le_of_ble_eq_true rfl) rfl ?_
    refine ev_eqH (h' := sI (sI h 23 (cwA (h.2.1 22) m (h.2.1 23))) 24 (upd (zrF (h.2.1 24) (2 ^ m)) (2 ^ m - 1) 1)) rfl ?_
    refine lp_cw_128 E h m (cwA (h.2.1 22) m (h.2.1 23)) (upd (zrF (h.2.1 24) (2 ^ m)) (2 ^ m - 1) 1) hw hm hm2 ?_ (2 ^ m - 1) 0 (Nat.add_zero _)
    refine ev_aload_n (pc := 191) dX6_countWays_191 rfl ?_
    refine ev_iconst (pc := 192) (v := 1) dX6_countWays_192 (by decide) ?_
    refine ev_putZ (pc := 193) dX6_countWays_193 fX6_46 rfl (wlt (wf_sI (wf_sI hw)) (by decide)) (by decide) ?_
    refine ev_eqH (h' := sI (sI (sI h 23 (cwA (h.2.1 22) m (h.2.1 23))) 24 (cwC (h.2.1 22) m (h.2.1 23) (h.2.1 24))) 20 (upd (h.2.1 20) 5 1)) (by rfl) ?_
    refine ev_ret (pc := 196) dX6_countWays_196 rfl ?_
    · refine ⟨rfl, ?_⟩
      exact (if_pos zc4).symm
  · -- eq at 4: not taken
    refine ev_ret (pc := 7) dX6_countWays_7 rfl ?_
    · refine ⟨rfl, ?_⟩
      exact (if_neg zc4).symm
