theorem rws_bit (zc : Nat → Nat) : ∀ zn zi, (rwsN zc zn).testBit zi = true → 0 < zc zi
  | 0, zi, h => by rw [rwsN, Nat.zero_testBit] at h; cases h
  | zn + 1, zi, h => by
    rw [rwsN, or_if_bit] at h
    by_cases h1 : (rwsN zc zn).testBit zi = true
    · exact rws_bit zc zn zi h1
    · rw [ts_nt h1, Bool.false_or, Bool.and_eq_true, decide_eq_true_iff, decide_eq_true_iff] at h
      rw [h.1]; exact h.2
def stN (zf : Nat → Int32) (zk : Nat) : Nat := fb_ct (fun zi => decide (zf zi = nI zk)) 64
theorem pl_ct {zP : Nat → Int64} {zf : Nat → Int32} (h : PLz zP zf) {zk : Nat} (hk : zk < 6) : bcL (zP zk) = nI (stN zf zk) := by
  rw [bcL_bt]
  exact congrArg nI (fb_ct_cong (fun zj hj => h zk hk zj hj))
theorem bs_ok (zg : Nat → Int32) : ∀ zn, (bsF zg zn).1 = -1 ∨ ∃ zk, zk < zn ∧ (bsF zg zn).1 = nI zk ∧ (bsF zg zn).2 = zg zk
  | 0 => Or.inl rfl
  | zn + 1 => by
    rw [bsF]
    split
    · exact Or.inr ⟨zn, Nat.lt_succ_self _, rfl, rfl⟩
    · rcases bs_ok zg zn with z | ⟨zk, a, b, c⟩
      · exact Or.inl z
      · exact Or.inr ⟨zk, by omega, b, c⟩
theorem add_sub32 (za zb : Int32) : zb = za + zb - za := by
  rw [Int32.add_comm, Int32.add_sub_cancel]
theorem sub_add32 (za zb : Int32) : za + (zb - za) = zb := by
  rw [Int32.add_comm, Int32.sub_add_cancel]
theorem cn_X10_best (E : ME) (h : AH) (zv : Int32) (zc : Nat → Nat → Nat) (zb : Nat) (zf : Nat → Int32) (zx : Int64) (hw : WF h) (hp : h.2.1 30 1 = nI zb) (hp4 : zb ≤ 4) (hS : SHz zc zb h) (hF : FLz zf zx h) : Con E mX10_best 4 0 0 [.ref 0, .int zv] h (fun r h' => r = some (.int (if 0 ≤ zv ∧ zv ≤ 4 then (if (bsF (acV zc zf) (zb * 208)).1 < 0 then -4 else if zv = 0 then nI (Int32.toNatClampNeg (bsF (acV zc zf) (zb * 208)).1 / 208) else if zv = 1 then nI (cpW (Int32.toNatClampNeg (bsF (acV zc zf) (zb * 208)).1)) else if zv = 2 then nI (cpS (Int32.toNatClampNeg (bsF (acV zc zf) (zb * 208)).1)) else if zv = 3 then nI (cpC (Int32.toNatClampNeg (bsF (acV zc zf) (zb * 208)).1)) else nI (ctT (tcN zc (Int32.toNatClampNeg (bsF (acV zc zf) (zb * 208)).1)) (agQ zf) 6)) else -1)) ∧ h' = h) := by
  refine con_of2 (L := [some (.ref 0), some (.int zv), none]) rfl (Nat.le_of_ble_eq_true rfl) rfl ?_
  refine ev_iload_n (pc := 0) dX10_best_0 rfl ?_
  refine ev_iconst (pc := 1) (v := 0) dX10_best_1 (by decide) ?_
  refine ev_iconst (pc := 2) (v := 4) dX10_best_2 (by decide) ?_
  refine ev_callSv (S := []) (pc := 3) dX10_best_3 kX10_within lX10_123 sX10_within (cn_X10_within E h zv 0 4) rfl rfl (Nat.le_of_ble_eq_true rfl) ⟨Nat.le_of_ble_eq_true rfl, Nat.le_of_ble_eq_true rfl⟩ ⟨Nat.le_of_ble_eq_true rfl, Nat.le_of_ble_eq_true rfl⟩ ?_
  refine ev_if_ne (pc := 6) (tgt := 11) dX10_best_6 (by decide) (fun zc6 => ?_) (fun zc6 => ?_)
  · -- ne at 6: taken
    refine ev_aload_n (pc := 11) dX10_best_11 rfl ?_
    refine ev_getR (pc := 12) (q := 30) dX10_best_12 fX10_52 rfl (wlt hw (by decide)) (wr hw rfl) ?_
    refine ev_aload_n (pc := 15) dX10_best_15 rfl ?_
    refine ev_getR (pc := 16) (q := 25) dX10_best_16 fX10_45 rfl (wlt hw (by decide)) (wr hw rfl) ?_
    refine ev_callVv (S := []) (pc := 19) dX10_best_19 kX0_bestOn lX10_275 vX0_bestOn (cn_X0_bestOn E h zc zb zf zx hw hp hp4 hS hF) rfl rfl (wlt hw (by decide)) rfl rfl (Nat.le_of_ble_eq_true rfl) ⟨Nat.le_of_ble_eq_true rfl, Nat.le_of_ble_eq_true rfl⟩ ⟨Nat.le_of_ble_eq_true rfl, Nat.le_of_ble_eq_true rfl⟩ ?_
    refine ev_istore_n (pc := 22) (L' := [some (.ref 0), some (.int zv), some (.int ((bsF (acV zc zf) (zb * 208)).1))]) dX10_best_22 (Nat.le_of_ble_eq_true rfl) rfl ?_
    refine ev_iload_n (pc := 23) dX10_best_23 rfl ?_
    refine ev_if_ge (pc := 24) (tgt := 30) dX10_best_24 (by decide) (fun zc24 => ?_) (fun zc24 => ?_)
    · -- ge at 24: taken
      obtain ⟨zn, hzn, ezn, -⟩ : ∃ zk, zk < zb * 208 ∧ (bsF (acV zc zf) (zb * 208)).1 = nI zk ∧ (bsF (acV zc zf) (zb * 208)).2 = acV zc zf zk := by
        rcases bs_ok (acV zc zf) (zb * 208) with z | z
        · rw [z] at zc24; exact absurd zc24 (by decide)
        · exact z
      have hn : zn < 832 := by omega
      refine ev_eqL (L' := [some (.ref 0), some (.int zv), some (.int (nI zn))]) (by rw [ezn]) ?_
      refine ev_iload_n (pc := 30) dX10_best_30 rfl ?_
      refine ev_nmI (fun zsv ezsv => ?_)
      by_cases zq0 : zsv = 0
      · subst zq0
        refine ev_tabIn (pc := 31) (off := 29) (tgt := 60) dX10_best_31 (by decide) (by decide) (by decide +kernel) (by decide) ?_
        refine ev_iload_n (pc := 60) dX10_best_60 rfl ?_
        refine ev_callSv (S := []) (pc := 61) dX10_best_61 kX0_patternOf lX10_279 sX0_patternOf (cn_X0_patternOf E h zn hn) rfl rfl (Nat.le_of_ble_eq_true rfl) ⟨Nat.le_of_ble_eq_true rfl, Nat.le_of_ble_eq_true rfl⟩ ⟨Nat.le_of_ble_eq_true rfl, Nat.le_of_ble_eq_true rfl⟩ ?_
        refine ev_iret (pc := 64) dX10_best_64 rfl ?_ ?_
        · rfl
        · refine ⟨?_, rfl⟩
          rw [if_pos (bI_n0.mp zc6), if_neg ((i_lt2 _ _).mpr zc24), ezn, nI_clamp (by omega)]
          subst ezsv
          rfl
      by_cases zq1 : zsv = 1
      · subst zq1
        refine ev_tabIn (pc := 31) (off := 34) (tgt := 65) dX10_best_31 (by decide) (by decide) (by decide +kernel) (by decide) ?_
        refine ev_iload_n (pc := 65) dX10_best_65 rfl ?_
        refine ev_callSv (S := []) (pc := 66) dX10_best_66 kX0_wayOf lX10_282 sX0_wayOf (cn_X0_wayOf E h zn hn) rfl rfl (Nat.le_of_ble_eq_true rfl) ⟨Nat.le_of_ble_eq_true rfl, Nat.le_of_ble_eq_true rfl⟩ ⟨Nat.le_of_ble_eq_true rfl, Nat.le_of_ble_eq_true rfl⟩ ?_
        refine ev_iret (pc := 69) dX10_best_69 rfl ?_ ?_
        · rfl
        · refine ⟨?_, rfl⟩
          rw [if_pos (bI_n0.mp zc6), if_neg ((i_lt2 _ _).mpr zc24), ezn, nI_clamp (by omega)]
          subst ezsv
          rfl
      by_cases zq2 : zsv = 2
      · subst zq2
        refine ev_tabIn (pc := 31) (off := 39) (tgt := 70) dX10_best_31 (by decide) (by decide) (by decide +kernel) (by decide) ?_
        refine ev_iload_n (pc := 70) dX10_best_70 rfl ?_
        refine ev_callSv (S := []) (pc := 71) dX10_best_71 kX0_scaleOf lX10_285 sX0_scaleOf (cn_X0_scaleOf E h zn hn) rfl rfl (Nat.le_of_ble_eq_true rfl) ⟨Nat.le_of_ble_eq_true rfl, Nat.le_of_ble_eq_true rfl⟩ ⟨Nat.le_of_ble_eq_true rfl, Nat.le_of_ble_eq_true rfl⟩ ?_
        refine ev_iret (pc := 74) dX10_best_74 rfl ?_ ?_
        · rfl
        · refine ⟨?_, rfl⟩
          rw [if_pos (bI_n0.mp zc6), if_neg ((i_lt2 _ _).mpr zc24), ezn, nI_clamp (by omega)]
          subst ezsv
          rfl
      by_cases zq3 : zsv = 3
      · subst zq3
        refine ev_tabIn (pc := 31) (off := 44) (tgt := 75) dX10_best_31 (by decide) (by decide) (by decide +kernel) (by decide) ?_
        refine ev_iload_n (pc := 75) dX10_best_75 rfl ?_
        refine ev_callSv (S := []) (pc := 76) dX10_best_76 kX0_cellOf lX10_288 sX0_cellOf (cn_X0_cellOf E h zn hn) rfl rfl (Nat.le_of_ble_eq_true rfl) ⟨Nat.le_of_ble_eq_true rfl, Nat.le_of_ble_eq_true rfl⟩ ⟨Nat.le_of_ble_eq_true rfl, Nat.le_of_ble_eq_true rfl⟩ ?_
        refine ev_iret (pc := 79) dX10_best_79 rfl ?_ ?_
        · rfl
        · refine ⟨?_, rfl⟩
          rw [if_pos (bI_n0.mp zc6), if_neg ((i_lt2 _ _).mpr zc24), ezn, nI_clamp (by omega)]
          subst ezsv
          rfl
      have zhout : zsv.toInt < 0 ∨ 3 < zsv.toInt := by
        have nzq0 := i32_ne zq0
        have nzq1 := i32_ne zq1
        have nzq2 := i32_ne zq2
        have nzq3 := i32_ne zq3
        replace nzq0 : ¬ zsv.toInt = 0 := nzq0
        replace nzq1 : ¬ zsv.toInt = 1 := nzq1
        replace nzq2 : ¬ zsv.toInt = 2 := nzq2
        replace nzq3 : ¬ zsv.toInt = 3 := nzq3
        omega
      refine ev_tabOut (pc := 31) (tgt := 80) dX10_best_31 zhout (by decide) ?_
      refine ev_aload_n (pc := 80) dX10_best_80 rfl ?_
      refine ev_getR (pc := 81) (q := 30) dX10_best_81 fX10_52 rfl (wlt hw (by decide)) (wr hw rfl) ?_
      refine ev_iload_n (pc := 84) dX10_best_84 rfl ?_
      refine ev_aload_n (pc := 85) dX10_best_85 rfl ?_
      refine ev_getR (pc := 86) (q := 25) dX10_best_86 fX10_45 rfl (wlt hw (by decide)) (wr hw rfl) ?_
      refine ev_callVv (S := []) (pc := 89) dX10_best_89 kX0_agreesIn lX10_272 vX0_agreesIn (cn_X0_agreesIn E h zn zc zb zf zx hw hp hp4 hS hzn hF) rfl rfl (wlt hw (by decide)) rfl rfl (Nat.le_of_ble_eq_true rfl) ⟨Nat.le_of_ble_eq_true rfl, Nat.le_of_ble_eq_true rfl⟩ ⟨Nat.le_of_ble_eq_true rfl, Nat.le_of_ble_eq_true rfl⟩ ?_
      refine ev_iret (pc := 92) dX10_best_92 rfl ?_ ?_
      · rfl
      · refine ⟨?_, rfl⟩
        rw [if_pos (bI_n0.mp zc6), if_neg ((i_lt2 _ _).mpr zc24), ezn, nI_clamp (by omega)]
        subst ezsv
        rw [if_neg zq0, if_neg zq1, if_neg zq2, if_neg zq3]
    · -- ge at 24: not taken
      refine ev_bipush (pc := 27) (v := (-4)) dX10_best_27 (by decide) ?_
      refine ev_iret (pc := 29) dX10_best_29 rfl ?_ ?_
      · rfl
      · refine ⟨?_, rfl⟩
        rw [if_pos (bI_n0.mp zc6), if_pos ((i_le2 _ _).mp zc24)]
  · -- ne at 6: not taken
    refine ev_iconst (pc := 9) (v := (-1)) dX10_best_9 (by decide) ?_
    refine ev_iret (pc := 10) dX10_best_10 rfl ?_ ?_
    · rfl
    · refine ⟨?_, rfl⟩
      rw [if_neg (bI_0.mp zc6)]
theorem cn_X10_copies_3 (E : ME) (h : AH) (zt : PSt) (zp0 zl : Int32) (zc : Nat → Nat → Nat) (zb : Nat) (zf : Nat → Int32) (zx : Int64) (hw : WF h) (hY : STz zt 3 h) (hO : POK zt) (hst : h.2.2.2 0 1 = some 3) (hp : h.2.1 30 1 = nI zb) (hp4 : zb ≤ 4) (hS : SHz zc zb h) (hF : FLz zf zx h) (hb : zb = zt.1 2) : Con E mX10_copies 4 0 0 [.ref 0, .int zp0, .int zl] h (fun r h' => r = some (.int (if ptg zt zp0 ∧ (0 ≤ zl ∧ zl ≤ 64) then nI (ccF (fun zq => acV zc zf (zp0.toNatClampNeg * 208 + zq)) zl 208) else -1)) ∧ h' = h) := by
  refine con_of2 (L := [some (.ref 0), some (.int zp0), some (.int zl)]) rfl (Nat.le_of_ble_eq_true rfl) rfl ?_
  refine ev_aload_n (pc := 0) dX10_copies_0 rfl ?_
  refine ev_getR (pc := 1) (q := 3) dX10_copies_1 fX10_19 rfl (wlt hw (by decide)) hst ?_
  refine ev_iload_n (pc := 4) dX10_copies_4 rfl ?_
  refine ev_callVv (S := []) (pc := 5) dX10_copies_5 kX8_hasPattern lX10_149 vX8_hasPattern (cn_X8_hasPattern_3 E h zt zp0 hw hY hO) rfl rfl (wlt hw (by decide)) rfl rfl (Nat.le_of_ble_eq_true rfl) ⟨Nat.le_of_ble_eq_true rfl, Nat.le_of_ble_eq_true rfl⟩ ⟨Nat.le_of_ble_eq_true rfl, Nat.le_of_ble_eq_true rfl⟩ ?_
  refine ev_if_eq (pc := 8) (tgt := 21) dX10_copies_8 (by decide) (fun zc8 => ?_) (fun zc8 => ?_)
  · -- eq at 8: taken
    refine ev_iconst (pc := 21) (v := (-1)) dX10_copies_21 (by decide) ?_
    refine ev_iret (pc := 22) dX10_copies_22 rfl ?_ ?_
    · rfl
    · refine ⟨?_, rfl⟩
      rw [if_neg (show ¬ (ptg zt zp0 ∧ (0 ≤ zl ∧ zl ≤ 64)) from fun z => bI_0.mp zc8 z.1)]
  · -- eq at 8: not taken
    refine ev_iload_n (pc := 11) dX10_copies_11 rfl ?_
    refine ev_iconst (pc := 12) (v := 0) dX10_copies_12 (by decide) ?_
    refine ev_bipush (pc := 13) (v := 64) dX10_copies_13 (by decide) ?_
    refine ev_callSv (S := []) (pc := 15) dX10_copies_15 kX10_within lX10_123 sX10_within (cn_X10_within E h zl 0 64) rfl rfl (Nat.le_of_ble_eq_true rfl) ⟨Nat.le_of_ble_eq_true rfl, Nat.le_of_ble_eq_true rfl⟩ ⟨Nat.le_of_ble_eq_true rfl, Nat.le_of_ble_eq_true rfl⟩ ?_
    refine ev_if_ne (pc := 18) (tgt := 23) dX10_copies_18 (by decide) (fun zc18 => ?_) (fun zc18 => ?_)
    · -- ne at 18: taken
      obtain ⟨zp, hzp, rfl⟩ := th_nat (bI_n0.mp zc8) (by have := hO.2.1; omega : zt.1 2 ≤ 4096)
      refine ev_aload_n (pc := 23) dX10_copies_23 rfl ?_
      refine ev_getR (pc := 24) (q := 30) dX10_copies_24 fX10_52 rfl (wlt hw (by decide)) (wr hw rfl) ?_
      refine ev_iload_n (pc := 27) dX10_copies_27 rfl ?_
      refine ev_iload_n (pc := 28) dX10_copies_28 rfl ?_
      refine ev_aload_n (pc := 29) dX10_copies_29 rfl ?_
      refine ev_getR (pc := 30) (q := 25) dX10_copies_30 fX10_45 rfl (wlt hw (by decide)) (wr hw rfl) ?_
      refine ev_callVv (S := []) (pc := 33) dX10_copies_33 kX0_countCopies lX10_291 vX0_countCopies (cn_X0_countCopies E h zp zl zc zb zf zx hw hp hp4 hS hF (by omega)) rfl rfl (wlt hw (by decide)) rfl rfl (Nat.le_of_ble_eq_true rfl) ⟨Nat.le_of_ble_eq_true rfl, Nat.le_of_ble_eq_true rfl⟩ ⟨Nat.le_of_ble_eq_true rfl, Nat.le_of_ble_eq_true rfl⟩ ?_
      refine ev_iret (pc := 36) dX10_copies_36 rfl ?_ ?_
      · rfl
      · refine ⟨?_, rfl⟩
        rw [if_pos (show ptg zt (nI zp) ∧ (0 ≤ zl ∧ zl ≤ 64) from ⟨bI_n0.mp zc8, bI_n0.mp zc18⟩), nI_clamp (n := zp) (by omega)]
    · -- ne at 18: not taken
      refine ev_iconst (pc := 21) (v := (-1)) dX10_copies_21 (by decide) ?_
      refine ev_iret (pc := 22) dX10_copies_22 rfl ?_ ?_
      · rfl
      · refine ⟨?_, rfl⟩
        rw [if_neg (show ¬ (ptg zt zp0 ∧ (0 ≤ zl ∧ zl ≤ 64)) from fun z => bI_0.mp zc18 z.2)]
theorem lp_chands_3 (E : ME) (h : AH) (zt : PSt) (zv : Int32) (hw : WF h) (hY : STz zt 3 h) (hO : POK zt) (hst : h.2.2.2 0 1 = some 3) {post : PO} : ∀ zf zn zs : Nat, zn + zf = 13 → zs < 2 ^ zt.1 1 → (∀ zi, zi < zt.1 1 → zs.testBit zi = true → 0 < zt.2 0 zi) → post (some (.int (hndN (zt.2 0) (zt.2 1) (zt.1 3) (zt.1 1) zv zf zn zs))) h → Ev E mX10_hands (rmm 5 0 0) (QM E 0 0 post) 0 0 27 [some (.ref 0), some (.int zv), some (.int (nI zs)), some (.int (nI zn)), none] [] h := by
  have zm12 := hO.1
  have zpw := pw_le hO.1
  intro zf
  induction zf with
  | zero =>
    intro zn zs h1 h2 h3 hp
    obtain rfl : zn = 13 := by omega
    refine ev_iload_n (pc := 27) dX10_hands_27 rfl ?_
    refine ev_bipush (pc := 28) (v := 12) dX10_hands_28 (by decide) ?_
    refine ev_icmp_gt (pc := 30) (tgt := 81) dX10_hands_30 (by decide) (fun zc30 => ?_) (fun zc30 => absurd (by decide) zc30)
    refine ev_iconst (pc := 81) (v := (-1)) dX10_hands_81 (by decide) ?_
    refine ev_iret (pc := 82) dX10_hands_82 rfl ?_ ?_
    · rfl
    · exact hp
  | succ zf ih =>
    intro zn zs h1 h2 h3 hp
    refine ev_iload_n (pc := 27) dX10_hands_27 rfl ?_
    refine ev_bipush (pc := 28) (v := 12) dX10_hands_28 (by decide) ?_
    refine ev_icmp_gt (pc := 30) (tgt := 81) dX10_hands_30 (by decide) (fun zc30 => absurd zc30 (nI_nlt (a := 12) (b := zn) (by omega) (by decide))) (fun zc30 => ?_)
    refine ev_iload_n (pc := 33) dX10_hands_33 rfl ?_
    refine ev_if_ne (pc := 34) (tgt := 47) dX10_hands_34 (by decide) (fun zc34 => ?_) (fun zc34 => ?_)
    · -- ne at 34: taken
      have zs0 : zs ≠ 0 := fun z => zc34 (by rw [z]; rfl)
      refine ev_aload_n (pc := 47) dX10_hands_47 rfl ?_
      refine ev_getR (pc := 48) (q := 3) dX10_hands_48 fX10_19 rfl (wlt hw (by decide)) hst ?_
      refine ev_iload_n (pc := 51) dX10_hands_51 rfl ?_
      refine ev_callVv (S := []) (pc := 52) dX10_hands_52 kX8_handOfLeast lX10_246 vX8_handOfLeast (cn_X8_handOfLeast_3 E h zt zs hw hY hO h2 h3 zs0) rfl rfl (wlt hw (by decide)) rfl rfl (Nat.le_of_ble_eq_true rfl) ⟨Nat.le_of_ble_eq_true rfl, Nat.le_of_ble_eq_true rfl⟩ ⟨Nat.le_of_ble_eq_true rfl, Nat.le_of_ble_eq_true rfl⟩ ?_
      refine ev_istore (pc := 55) (L' := [some (.ref 0), some (.int zv), some (.int (nI zs)), some (.int (nI zn)), some (.int (nI (hdN (zt.2 0) (zt.2 1) (zt.1 3) zs (lsN (zt.2 0) (zt.2 1) zs (zt.1 1)) (zt.1 1))))]) dX10_hands_55 (Nat.le_of_ble_eq_true rfl) rfl ?_
      refine ev_iload_n (pc := 57) dX10_hands_57 rfl ?_
      refine ev_bipush (pc := 58) (v := 10) dX10_hands_58 (by decide) ?_
      refine ev_iload_n (pc := 60) dX10_hands_60 rfl ?_
      refine ev_iadd (pc := 61) dX10_hands_61 ?_
      refine ev_icmp_ne (pc := 62) (tgt := 68) dX10_hands_62 (by decide) (fun zc62 => ?_) (fun zc62 => ?_)
      · -- ne at 62: taken
        refine ev_iload_n (pc := 68) dX10_hands_68 rfl ?_
        refine ev_iload (pc := 69) dX10_hands_69 rfl ?_
        refine ev_iconst (pc := 71) (v := (-1)) dX10_hands_71 (by decide) ?_
        refine ev_ixor (pc := 72) dX10_hands_72 ?_
        refine ev_iand (pc := 73) dX10_hands_73 ?_
        refine ev_eqI (e' := nI (zs ^^^ (hdN (zt.2 0) (zt.2 1) (zt.1 3) zs (lsN (zt.2 0) (zt.2 1) zs (zt.1 1)) (zt.1 1)))) (hd_less hO.1 h2) ?_
        refine ev_istore_n (pc := 74) (L' := [some (.ref 0), some (.int zv), some (.int (nI (zs ^^^ (hdN (zt.2 0) (zt.2 1) (zt.1 3) zs (lsN (zt.2 0) (zt.2 1) zs (zt.1 1)) (zt.1 1))))), some (.int (nI zn)), some (.int (nI (hdN (zt.2 0) (zt.2 1) (zt.1 3) zs (lsN (zt.2 0) (zt.2 1) zs (zt.1 1)) (zt.1 1))))]) dX10_hands_74 (Nat.le_of_ble_eq_true rfl) rfl ?_
        refine ev_iinc (pc := 75) (v := nI (zn + 1)) (L' := [some (.ref 0), some (.int zv), some (.int (nI (zs ^^^ (hdN (zt.2 0) (zt.2 1) (zt.1 3) zs (lsN (zt.2 0) (zt.2 1) zs (zt.1 1)) (zt.1 1))))), some (.int (nI (zn + 1))), some (.int (nI (hdN (zt.2 0) (zt.2 1) (zt.1 3) zs (lsN (zt.2 0) (zt.2 1) zs (zt.1 1)) (zt.1 1))))]) dX10_hands_75 rfl (nI_1 _) (Nat.le_of_ble_eq_true rfl) rfl ?_
        refine ev_goto (pc := 78) (tgt := 27) dX10_hands_78 (by decide) ?_
        refine ev_less (L' := [some (.ref 0), some (.int zv), some (.int (nI (zs ^^^ (hdN (zt.2 0) (zt.2 1) (zt.1 3) zs (lsN (zt.2 0) (zt.2 1) zs (zt.1 1)) (zt.1 1))))), some (.int (nI (zn + 1))), none]) (ls_keep (ls_keep (ls_keep (ls_keep (ls_drop (ls_nil _)))))) ?_
        refine ih (zn + 1) _ (by omega) (xor_lt2 h2 (hd_lt _ _ _ _ _ _)) (fun zi hi hb => ?_) ?_
        · refine h3 zi hi ?_
          rw [Nat.testBit_xor, hd_bit, decide_eq_true hi, Bool.true_and] at hb
          cases hq : zs.testBit zi
          · rw [hq] at hb; simp at hb
          · rfl
        · rw [hndN, if_neg zs0, if_neg (fun z => zc62 (by rw [z]; exact (sub_add32 _ _).symm))] at hp
          exact hp
      · -- ne at 62: not taken
        refine ev_iload (pc := 65) dX10_hands_65 rfl ?_
        refine ev_iret (pc := 67) dX10_hands_67 rfl ?_ ?_
        · rfl
        · have zs0 : zs ≠ 0 := fun z => zc34 (by rw [z]; rfl)
          rw [hndN, if_neg zs0, if_pos (by rw [zc62]; exact add_sub32 _ _)] at hp
          exact hp
    · -- ne at 34: not taken
      refine ev_iload_n (pc := 37) dX10_hands_37 rfl ?_
      refine ev_if_ne (pc := 38) (tgt := 45) dX10_hands_38 (by decide) (fun zc38 => ?_) (fun zc38 => ?_)
      · -- ne at 38: taken
        refine ev_iconst (pc := 45) (v := (-1)) dX10_hands_45 (by decide) ?_
        refine ev_iret (pc := 46) dX10_hands_46 rfl ?_ ?_
        · rfl
        · have z9 : zs = 0 := (nI_eq (a := zs) (b := 0) (by omega) (by decide)).mp zc34
          rw [hndN, if_pos z9, if_neg zc38] at hp
          exact hp
      · -- ne at 38: not taken
        refine ev_iload_n (pc := 41) dX10_hands_41 rfl ?_
        refine ev_goto (pc := 42) (tgt := 46) dX10_hands_42 (by decide) ?_
        refine ev_iret (pc := 46) dX10_hands_46 rfl ?_ ?_
        · rfl
        · have z9 : zs = 0 := (nI_eq (a := zs) (b := 0) (by omega) (by decide)).mp zc34
          rw [hndN, if_pos z9, if_pos zc38] at hp
          exact hp
theorem cn_X10_hands_3 (E : ME) (h : AH) (zt : PSt) (zv : Int32) (hw : WF h) (hY : STz zt 3 h) (hO : POK zt) (hst : h.2.2.2 0 1 = some 3) : Con E mX10_hands 5 0 0 [.ref 0, .int zv] h (fun r h' => r = some (.int (if zv = 0 ∨ (10 ≤ zv ∧ zv ≤ 21) then hndN (zt.2 0) (zt.2 1) (zt.1 3) (zt.1 1) zv 13 0 (rwsN (zt.2 0) (zt.1 1)) else -1)) ∧ h' = h) := by
  refine con_of2 (L := [some (.ref 0), some (.int zv), none, none, none]) rfl (Nat.le_of_ble_eq_true rfl) rfl ?_
  refine ev_iload_n (pc := 0) dX10_hands_0 rfl ?_
  refine ev_if_eq (pc := 1) (tgt := 17) dX10_hands_1 (by decide) (fun zc1 => ?_) (fun zc1 => ?_)
  · -- eq at 1: taken
    refine ev_aload_n (pc := 17) dX10_hands_17 rfl ?_
    refine ev_getR (pc := 18) (q := 3) dX10_hands_18 fX10_19 rfl (wlt hw (by decide)) hst ?_
    refine ev_callVv (S := []) (pc := 21) dX10_hands_21 kX8_rows lX10_243 vX8_rows (cn_X8_rows_3 E h zt hw hY hO) rfl rfl (wlt hw (by decide)) rfl rfl (Nat.le_of_ble_eq_true rfl) ⟨Nat.le_of_ble_eq_true rfl, Nat.le_of_ble_eq_true rfl⟩ ⟨Nat.le_of_ble_eq_true rfl, Nat.le_of_ble_eq_true rfl⟩ ?_
    refine ev_istore_n (pc := 24) (L' := [some (.ref 0), some (.int zv), some (.int (nI (rwsN (zt.2 0) (zt.1 1)))), none, none]) dX10_hands_24 (Nat.le_of_ble_eq_true rfl) rfl ?_
    refine ev_iconst (pc := 25) (v := 0) dX10_hands_25 (by decide) ?_
    refine ev_istore_n (pc := 26) (L' := [some (.ref 0), some (.int zv), some (.int (nI (rwsN (zt.2 0) (zt.1 1)))), some (.int 0), none]) dX10_hands_26 (Nat.le_of_ble_eq_true rfl) rfl ?_
    refine lp_chands_3 E h zt zv hw hY hO hst 13 0 (rwsN (zt.2 0) (zt.1 1)) (by decide) (rws_lt _ _) (fun zi hi hb => rws_bit _ _ zi hb) ?_
    rw [if_pos (show zv = 0 ∨ (10 ≤ zv ∧ zv ≤ 21) from Or.inl zc1)]
    exact ⟨rfl, rfl⟩
  · -- eq at 1: not taken
    refine ev_iload_n (pc := 4) dX10_hands_4 rfl ?_
    refine ev_bipush (pc := 5) (v := 10) dX10_hands_5 (by decide) ?_
    refine ev_bipush (pc := 7) (v := 21) dX10_hands_7 (by decide) ?_
    refine ev_callSv (S := []) (pc := 9) dX10_hands_9 kX10_within lX10_123 sX10_within (cn_X10_within E h zv 10 21) rfl rfl (Nat.le_of_ble_eq_true rfl) ⟨Nat.le_of_ble_eq_true rfl, Nat.le_of_ble_eq_true rfl⟩ ⟨Nat.le_of_ble_eq_true rfl, Nat.le_of_ble_eq_true rfl⟩ ?_
    refine ev_if_ne (pc := 12) (tgt := 17) dX10_hands_12 (by decide) (fun zc12 => ?_) (fun zc12 => ?_)
    · -- ne at 12: taken
      refine ev_aload_n (pc := 17) dX10_hands_17 rfl ?_
      refine ev_getR (pc := 18) (q := 3) dX10_hands_18 fX10_19 rfl (wlt hw (by decide)) hst ?_
      refine ev_callVv (S := []) (pc := 21) dX10_hands_21 kX8_rows lX10_243 vX8_rows (cn_X8_rows_3 E h zt hw hY hO) rfl rfl (wlt hw (by decide)) rfl rfl (Nat.le_of_ble_eq_true rfl) ⟨Nat.le_of_ble_eq_true rfl, Nat.le_of_ble_eq_true rfl⟩ ⟨Nat.le_of_ble_eq_true rfl, Nat.le_of_ble_eq_true rfl⟩ ?_
      refine ev_istore_n (pc := 24) (L' := [some (.ref 0), some (.int zv), some (.int (nI (rwsN (zt.2 0) (zt.1 1)))), none, none]) dX10_hands_24 (Nat.le_of_ble_eq_true rfl) rfl ?_
      refine ev_iconst (pc := 25) (v := 0) dX10_hands_25 (by decide) ?_
      refine ev_istore_n (pc := 26) (L' := [some (.ref 0), some (.int zv), some (.int (nI (rwsN (zt.2 0) (zt.1 1)))), some (.int 0), none]) dX10_hands_26 (Nat.le_of_ble_eq_true rfl) rfl ?_
      refine lp_chands_3 E h zt zv hw hY hO hst 13 0 (rwsN (zt.2 0) (zt.1 1)) (by decide) (rws_lt _ _) (fun zi hi hb => rws_bit _ _ zi hb) ?_
      rw [if_pos (show zv = 0 ∨ (10 ≤ zv ∧ zv ≤ 21) from Or.inr (bI_n0.mp zc12))]
      exact ⟨rfl, rfl⟩
    · -- ne at 12: not taken
      refine ev_iconst (pc := 15) (v := (-1)) dX10_hands_15 (by decide) ?_
      refine ev_iret (pc := 16) dX10_hands_16 rfl ?_ ?_
      · rfl
      · refine ⟨?_, rfl⟩
        rw [if_neg (show ¬ (zv = 0 ∨ (10 ≤ zv ∧ zv ≤ 21)) from fun z => z.elim zc1 (bI_0.mp zc12))]
theorem cn_X10_count_3 (E : ME) (h : AH) (zt : PSt) (zv : Int32) (hw : WF h) (hY : STz zt 3 h) (hO : POK zt) (hst : h.2.2.2 0 1 = some 3) (ht : h.2.1 41 1 = 0 ∨ h.2.1 41 1 = 1) : Con E mX10_count 1 0 0 [.ref 0, .int zv] h (fun r h' => r = some (.int (if zv = 0 then bcL (h.2.2.1 25 4 ^^^ (-1)) else if zv = 1 then h.2.1 34 1 else if zv = 2 then bcI (nI (rwsN (zt.2 0) (zt.1 1))) else if zv = 3 then nI (zt.1 1) - bcI (nI (rwsN (zt.2 0) (zt.1 1))) else if zv = 4 then h.2.1 1 1 else if zv = 5 then (if h.2.1 41 1 = 0 then -4 else h.2.1 41 3) else -1)) ∧ h' = h) := by
  refine con_of2 (L := [some (.ref 0), some (.int zv)]) rfl (Nat.le_of_ble_eq_true rfl) rfl ?_
  refine ev_iload_n (pc := 0) dX10_count_0 rfl ?_
  refine ev_nmI (fun zsv ezsv => ?_)
  by_cases zq0 : zsv = 0
  · subst zq0
    refine ev_tabIn (pc := 1) (off := 39) (tgt := 40) dX10_count_1 (by decide) (by decide) (by decide +kernel) (by decide) ?_
    refine ev_aload_n (pc := 40) dX10_count_40 rfl ?_
    refine ev_getR (pc := 41) (q := 25) dX10_count_41 fX10_45 rfl (wlt hw (by decide)) (wr hw rfl) ?_
    refine ev_callVv (S := []) (pc := 44) dX10_count_44 kX2_lostCells lX10_305 vX2_lostCells (cn_X2_lostCells E h hw) rfl rfl (wlt hw (by decide)) rfl rfl (Nat.le_of_ble_eq_true rfl) ⟨Nat.le_of_ble_eq_true rfl, Nat.le_of_ble_eq_true rfl⟩ ⟨Nat.le_of_ble_eq_true rfl, Nat.le_of_ble_eq_true rfl⟩ ?_
    refine ev_callSv (S := []) (pc := 47) dX10_count_47 kJ13_bitCount_95d88 lX10_311 sJ13_bitCount_95d88 (cn_J13_bitCount_95d88 E h (h.2.2.1 25 4 ^^^ (-1))) rfl rfl (Nat.le_of_ble_eq_true rfl) ⟨Nat.le_of_ble_eq_true rfl, Nat.le_of_ble_eq_true rfl⟩ ⟨Nat.le_of_ble_eq_true rfl, Nat.le_of_ble_eq_true rfl⟩ ?_
    refine ev_iret (pc := 50) dX10_count_50 rfl ?_ ?_
    · rfl
    · refine ⟨?_, rfl⟩
      subst ezsv
      rfl
  by_cases zq1 : zsv = 1
  · subst zq1
    refine ev_tabIn (pc := 1) (off := 50) (tgt := 51) dX10_count_1 (by decide) (by decide) (by decide +kernel) (by decide) ?_
    refine ev_aload_n (pc := 51) dX10_count_51 rfl ?_
    refine ev_getR (pc := 52) (q := 34) dX10_count_52 fX10_66 rfl (wlt hw (by decide)) (wr hw rfl) ?_
    refine ev_callVv (S := []) (pc := 55) dX10_count_55 kX1_length lX10_254 vX1_length (cn_X1_length E h hw) rfl rfl (wlt hw (by decide)) rfl rfl (Nat.le_of_ble_eq_true rfl) ⟨Nat.le_of_ble_eq_true rfl, Nat.le_of_ble_eq_true rfl⟩ ⟨Nat.le_of_ble_eq_true rfl, Nat.le_of_ble_eq_true rfl⟩ ?_
    refine ev_iret (pc := 58) dX10_count_58 rfl ?_ ?_
    · rfl
    · refine ⟨?_, rfl⟩
      subst ezsv
      rfl
  by_cases zq2 : zsv = 2
  · subst zq2
    refine ev_tabIn (pc := 1) (off := 58) (tgt := 59) dX10_count_1 (by decide) (by decide) (by decide +kernel) (by decide) ?_
    refine ev_aload_n (pc := 59) dX10_count_59 rfl ?_
    refine ev_getR (pc := 60) (q := 3) dX10_count_60 fX10_19 rfl (wlt hw (by decide)) hst ?_
    refine ev_callVv (S := []) (pc := 63) dX10_count_63 kX8_rows lX10_243 vX8_rows (cn_X8_rows_3 E h zt hw hY hO) rfl rfl (wlt hw (by decide)) rfl rfl (Nat.le_of_ble_eq_true rfl) ⟨Nat.le_of_ble_eq_true rfl, Nat.le_of_ble_eq_true rfl⟩ ⟨Nat.le_of_ble_eq_true rfl, Nat.le_of_ble_eq_true rfl⟩ ?_
    refine ev_callSv (S := []) (pc := 66) dX10_count_66 kJ6_bitCount_0f7a4 lX10_198 sJ6_bitCount_0f7a4 (cn_J6_bitCount_0f7a4 E h (nI (rwsN (zt.2 0) (zt.1 1)))) rfl rfl (Nat.le_of_ble_eq_true rfl) ⟨Nat.le_of_ble_eq_true rfl, Nat.le_of_ble_eq_true rfl⟩ ⟨Nat.le_of_ble_eq_true rfl, Nat.le_of_ble_eq_true rfl⟩ ?_
    refine ev_iret (pc := 69) dX10_count_69 rfl ?_ ?_
    · rfl
    · refine ⟨?_, rfl⟩
      subst ezsv
      rfl
  by_cases zq3 : zsv = 3
  · subst zq3
    refine ev_tabIn (pc := 1) (off := 69) (tgt := 70) dX10_count_1 (by decide) (by decide) (by decide +kernel) (by decide) ?_
    refine ev_aload_n (pc := 70) dX10_count_70 rfl ?_
    refine ev_getR (pc := 71) (q := 3) dX10_count_71 fX10_19 rfl (wlt hw (by decide)) hst ?_
    refine ev_callVv (S := []) (pc := 74) dX10_count_74 kX8_things lX10_114 vX8_things (cn_X8_things_3 E h zt hw hY hO) rfl rfl (wlt hw (by decide)) rfl rfl (Nat.le_of_ble_eq_true rfl) ⟨Nat.le_of_ble_eq_true rfl, Nat.le_of_ble_eq_true rfl⟩ ⟨Nat.le_of_ble_eq_true rfl, Nat.le_of_ble_eq_true rfl⟩ ?_
    refine ev_aload_n (pc := 77) dX10_count_77 rfl ?_
    refine ev_getR (pc := 78) (q := 3) dX10_count_78 fX10_19 rfl (wlt hw (by decide)) hst ?_
    refine ev_callVv (S := [.int (nI (zt.1 1))]) (pc := 81) dX10_count_81 kX8_rows lX10_243 vX8_rows (cn_X8_rows_3 E h zt hw hY hO) rfl rfl (wlt hw (by decide)) rfl rfl (Nat.le_of_ble_eq_true rfl) ⟨Nat.le_of_ble_eq_true rfl, Nat.le_of_ble_eq_true rfl⟩ ⟨Nat.le_of_ble_eq_true rfl, Nat.le_of_ble_eq_true rfl⟩ ?_
    refine ev_callSv (S := [.int (nI (zt.1 1))]) (pc := 84) dX10_count_84 kJ6_bitCount_0f7a4 lX10_198 sJ6_bitCount_0f7a4 (cn_J6_bitCount_0f7a4 E h (nI (rwsN (zt.2 0) (zt.1 1)))) rfl rfl (Nat.le_of_ble_eq_true rfl) ⟨Nat.le_of_ble_eq_true rfl, Nat.le_of_ble_eq_true rfl⟩ ⟨Nat.le_of_ble_eq_true rfl, Nat.le_of_ble_eq_true rfl⟩ ?_
    refine ev_isub (pc := 87) dX10_count_87 ?_
    refine ev_iret (pc := 88) dX10_count_88 rfl ?_ ?_
    · rfl
    · refine ⟨?_, rfl⟩
      subst ezsv
      rfl
  by_cases zq4 : zsv = 4
  · subst zq4
    refine ev_tabIn (pc := 1) (off := 88) (tgt := 89) dX10_count_1 (by decide) (by decide) (by decide +kernel) (by decide) ?_
    refine ev_aload_n (pc := 89) dX10_count_89 rfl ?_
    refine ev_getR (pc := 90) (q := 1) dX10_count_90 fX10_10 rfl (wlt hw (by decide)) (wr hw rfl) ?_
    refine ev_callVv (S := []) (pc := 93) dX10_count_93 kX9_length lX10_88 vX9_length (cn_X9_length E h hw) rfl rfl (wlt hw (by decide)) rfl rfl (Nat.le_of_ble_eq_true rfl) ⟨Nat.le_of_ble_eq_true rfl, Nat.le_of_ble_eq_true rfl⟩ ⟨Nat.le_of_ble_eq_true rfl, Nat.le_of_ble_eq_true rfl⟩ ?_
    refine ev_iret (pc := 96) dX10_count_96 rfl ?_ ?_
    · rfl
    · refine ⟨?_, rfl⟩
      subst ezsv
      rfl
  by_cases zq5 : zsv = 5
  · subst zq5
    refine ev_tabIn (pc := 1) (off := 96) (tgt := 97) dX10_count_1 (by decide) (by decide) (by decide +kernel) (by decide) ?_
    refine ev_aload_n (pc := 97) dX10_count_97 rfl ?_
    refine ev_getR (pc := 98) (q := 40) dX10_count_98 fX10_79 rfl (wlt hw (by decide)) (wr hw rfl) ?_
    refine ev_iconst (pc := 101) (v := 0) dX10_count_101 (by decide) ?_
    refine ev_aald (pc := 102) (q := 41) dX10_count_102 rfl (wlt hw (by decide)) (vp_in_nI (n := 0) (by decide) (by decide)) (wr hw rfl) ?_
    refine ev_callVv (S := []) (pc := 103) dX10_count_103 kX7_isThere lX10_397 vX7_isThere (cn_X7_isThere_41 E h hw ht) rfl rfl (wlt hw (by decide)) rfl rfl (Nat.le_of_ble_eq_true rfl) ⟨Nat.le_of_ble_eq_true rfl, Nat.le_of_ble_eq_true rfl⟩ ⟨Nat.le_of_ble_eq_true rfl, Nat.le_of_ble_eq_true rfl⟩ ?_
    refine ev_if_eq (pc := 106) (tgt := 121) dX10_count_106 (by decide) (fun zc106 => ?_) (fun zc106 => ?_)
    · -- eq at 106: taken
      refine ev_bipush (pc := 121) (v := (-4)) dX10_count_121 (by decide) ?_
      refine ev_iret (pc := 123) dX10_count_123 rfl ?_ ?_
      · rfl
      · refine ⟨?_, rfl⟩
        subst ezsv
        show _ = some (Value.int (if h.2.1 41 1 = 0 then -4 else h.2.1 41 3))
        rw [if_pos zc106]
    · -- eq at 106: not taken
      refine ev_aload_n (pc := 109) dX10_count_109 rfl ?_
      refine ev_getR (pc := 110) (q := 40) dX10_count_110 fX10_79 rfl (wlt hw (by decide)) (wr hw rfl) ?_
      refine ev_iconst (pc := 113) (v := 0) dX10_count_113 (by decide) ?_
      refine ev_aald (pc := 114) (q := 41) dX10_count_114 rfl (wlt hw (by decide)) (vp_in_nI (n := 0) (by decide) (by decide)) (wr hw rfl) ?_
      refine ev_callVv (S := []) (pc := 115) dX10_count_115 kX7_length lX10_400 vX7_length (cn_X7_length_41 E h hw) rfl rfl (wlt hw (by decide)) rfl rfl (Nat.le_of_ble_eq_true rfl) ⟨Nat.le_of_ble_eq_true rfl, Nat.le_of_ble_eq_true rfl⟩ ⟨Nat.le_of_ble_eq_true rfl, Nat.le_of_ble_eq_true rfl⟩ ?_
      refine ev_goto (pc := 118) (tgt := 123) dX10_count_118 (by decide) ?_
      refine ev_iret (pc := 123) dX10_count_123 rfl ?_ ?_
      · rfl
      · refine ⟨?_, rfl⟩
        subst ezsv
        show _ = some (Value.int (if h.2.1 41 1 = 0 then -4 else h.2.1 41 3))
        rw [if_neg zc106]
  have zhout : zsv.toInt < 0 ∨ 5 < zsv.toInt := by
    have nzq0 := i32_ne zq0
    have nzq1 := i32_ne zq1
    have nzq2 := i32_ne zq2
    have nzq3 := i32_ne zq3
    have nzq4 := i32_ne zq4
    have nzq5 := i32_ne zq5
    replace nzq0 : ¬ zsv.toInt = 0 := nzq0
    replace nzq1 : ¬ zsv.toInt = 1 := nzq1
    replace nzq2 : ¬ zsv.toInt = 2 := nzq2
    replace nzq3 : ¬ zsv.toInt = 3 := nzq3
    replace nzq4 : ¬ zsv.toInt = 4 := nzq4
    replace nzq5 : ¬ zsv.toInt = 5 := nzq5
    omega
  refine ev_tabOut (pc := 1) (tgt := 124) dX10_count_1 zhout (by decide) ?_
  refine ev_iconst (pc := 124) (v := (-1)) dX10_count_124 (by decide) ?_
  refine ev_iret (pc := 125) dX10_count_125 rfl ?_ ?_
  · rfl
  · refine ⟨?_, rfl⟩
    subst ezsv
    rw [if_neg zq0, if_neg zq1, if_neg zq2, if_neg zq3, if_neg zq4, if_neg zq5]
theorem cn_X10_copies_11 (E : ME) (h : AH) (zt : PSt) (zp0 zl : Int32) (zc : Nat → Nat → Nat) (zb : Nat) (zf : Nat → Int32) (zx : Int64) (hw : WF h) (hY : STz zt 11 h) (hO : POK zt) (hst : h.2.2.2 0 1 = some 11) (hp : h.2.1 30 1 = nI zb) (hp4 : zb ≤ 4) (hS : SHz zc zb h) (hF : FLz zf zx h) (hb : zb = zt.1 2) : Con E mX10_copies 4 0 0 [.ref 0, .int zp0, .int zl] h (fun r h' => r = some (.int (if ptg zt zp0 ∧ (0 ≤ zl ∧ zl ≤ 64) then nI (ccF (fun zq => acV zc zf (zp0.toNatClampNeg * 208 + zq)) zl 208) else -1)) ∧ h' = h) := by
  refine con_of2 (L := [some (.ref 0), some (.int zp0), some (.int zl)]) rfl (Nat.le_of_ble_eq_true rfl) rfl ?_
  refine ev_aload_n (pc := 0) dX10_copies_0 rfl ?_
  refine ev_getR (pc := 1) (q := 11) dX10_copies_1 fX10_19 rfl (wlt hw (by decide)) hst ?_
  refine ev_iload_n (pc := 4) dX10_copies_4 rfl ?_
  refine ev_callVv (S := []) (pc := 5) dX10_copies_5 kX8_hasPattern lX10_149 vX8_hasPattern (cn_X8_hasPattern_11 E h zt zp0 hw hY hO) rfl rfl (wlt hw (by decide)) rfl rfl (Nat.le_of_ble_eq_true rfl) ⟨Nat.le_of_ble_eq_true rfl, Nat.le_of_ble_eq_true rfl⟩ ⟨Nat.le_of_ble_eq_true rfl, Nat.le_of_ble_eq_true rfl⟩ ?_
  refine ev_if_eq (pc := 8) (tgt := 21) dX10_copies_8 (by decide) (fun zc8 => ?_) (fun zc8 => ?_)
  · -- eq at 8: taken
    refine ev_iconst (pc := 21) (v := (-1)) dX10_copies_21 (by decide) ?_
    refine ev_iret (pc := 22) dX10_copies_22 rfl ?_ ?_
    · rfl
    · refine ⟨?_, rfl⟩
      rw [if_neg (show ¬ (ptg zt zp0 ∧ (0 ≤ zl ∧ zl ≤ 64)) from fun z => bI_0.mp zc8 z.1)]
  · -- eq at 8: not taken
    refine ev_iload_n (pc := 11) dX10_copies_11 rfl ?_
    refine ev_iconst (pc := 12) (v := 0) dX10_copies_12 (by decide) ?_
    refine ev_bipush (pc := 13) (v := 64) dX10_copies_13 (by decide) ?_
    refine ev_callSv (S := []) (pc := 15) dX10_copies_15 kX10_within lX10_123 sX10_within (cn_X10_within E h zl 0 64) rfl rfl (Nat.le_of_ble_eq_true rfl) ⟨Nat.le_of_ble_eq_true rfl, Nat.le_of_ble_eq_true rfl⟩ ⟨Nat.le_of_ble_eq_true rfl, Nat.le_of_ble_eq_true rfl⟩ ?_
    refine ev_if_ne (pc := 18) (tgt := 23) dX10_copies_18 (by decide) (fun zc18 => ?_) (fun zc18 => ?_)
    · -- ne at 18: taken
      obtain ⟨zp, hzp, rfl⟩ := th_nat (bI_n0.mp zc8) (by have := hO.2.1; omega : zt.1 2 ≤ 4096)
      refine ev_aload_n (pc := 23) dX10_copies_23 rfl ?_
      refine ev_getR (pc := 24) (q := 30) dX10_copies_24 fX10_52 rfl (wlt hw (by decide)) (wr hw rfl) ?_
      refine ev_iload_n (pc := 27) dX10_copies_27 rfl ?_
      refine ev_iload_n (pc := 28) dX10_copies_28 rfl ?_
      refine ev_aload_n (pc := 29) dX10_copies_29 rfl ?_
      refine ev_getR (pc := 30) (q := 25) dX10_copies_30 fX10_45 rfl (wlt hw (by decide)) (wr hw rfl) ?_
      refine ev_callVv (S := []) (pc := 33) dX10_copies_33 kX0_countCopies lX10_291 vX0_countCopies (cn_X0_countCopies E h zp zl zc zb zf zx hw hp hp4 hS hF (by omega)) rfl rfl (wlt hw (by decide)) rfl rfl (Nat.le_of_ble_eq_true rfl) ⟨Nat.le_of_ble_eq_true rfl, Nat.le_of_ble_eq_true rfl⟩ ⟨Nat.le_of_ble_eq_true rfl, Nat.le_of_ble_eq_true rfl⟩ ?_
      refine ev_iret (pc := 36) dX10_copies_36 rfl ?_ ?_
      · rfl
      · refine ⟨?_, rfl⟩
        rw [if_pos (show ptg zt (nI zp) ∧ (0 ≤ zl ∧ zl ≤ 64) from ⟨bI_n0.mp zc8, bI_n0.mp zc18⟩), nI_clamp (n := zp) (by omega)]
    · -- ne at 18: not taken
      refine ev_iconst (pc := 21) (v := (-1)) dX10_copies_21 (by decide) ?_
      refine ev_iret (pc := 22) dX10_copies_22 rfl ?_ ?_
      · rfl
      · refine ⟨?_, rfl⟩
        rw [if_neg (show ¬ (ptg zt zp0 ∧ (0 ≤ zl ∧ zl ≤ 64)) from fun z => bI_0.mp zc18 z.2)]
theorem lp_chands_11 (E : ME) (h : AH) (zt : PSt) (zv : Int32) (hw : WF h) (hY : STz zt 11 h) (hO : POK zt) (hst : h.2.2.2 0 1 = some 11) {post : PO} : ∀ zf zn zs : Nat, zn + zf = 13 → zs < 2 ^ zt.1 1 → (∀ zi, zi < zt.1 1 → zs.testBit zi = true → 0 < zt.2 0 zi) → post (some (.int (hndN (zt.2 0) (zt.2 1) (zt.1 3) (zt.1 1) zv zf zn zs))) h → Ev E mX10_hands (rmm 5 0 0) (QM E 0 0 post) 0 0 27 [some (.ref 0), some (.int zv), some (.int (nI zs)), some (.int (nI zn)), none] [] h := by
  have zm12 := hO.1
  have zpw := pw_le hO.1
  intro zf
  induction zf with
  | zero =>
    intro zn zs h1 h2 h3 hp
    obtain rfl : zn = 13 := by omega
    refine ev_iload_n (pc := 27) dX10_hands_27 rfl ?_
    refine ev_bipush (pc := 28) (v := 12) dX10_hands_28 (by decide) ?_
    refine ev_icmp_gt (pc := 30) (tgt := 81) dX10_hands_30 (by decide) (fun zc30 => ?_) (fun zc30 => absurd (by decide) zc30)
    refine ev_iconst (pc := 81) (v := (-1)) dX10_hands_81 (by decide) ?_
    refine ev_iret (pc := 82) dX10_hands_82 rfl ?_ ?_
    · rfl
    · exact hp
  | succ zf ih =>
    intro zn zs h1 h2 h3 hp
    refine ev_iload_n (pc := 27) dX10_hands_27 rfl ?_
    refine ev_bipush (pc := 28) (v := 12) dX10_hands_28 (by decide) ?_
    refine ev_icmp_gt (pc := 30) (tgt := 81) dX10_hands_30 (by decide) (fun zc30 => absurd zc30 (nI_nlt (a := 12) (b := zn) (by omega) (by decide))) (fun zc30 => ?_)
    refine ev_iload_n (pc := 33) dX10_hands_33 rfl ?_
    refine ev_if_ne (pc := 34) (tgt := 47) dX10_hands_34 (by decide) (fun zc34 => ?_) (fun zc34 => ?_)
    · -- ne at 34: taken
      have zs0 : zs ≠ 0 := fun z => zc34 (by rw [z]; rfl)
      refine ev_aload_n (pc := 47) dX10_hands_47 rfl ?_
      refine ev_getR (pc := 48) (q := 11) dX10_hands_48 fX10_19 rfl (wlt hw (by decide)) hst ?_
      refine ev_iload_n (pc := 51) dX10_hands_51 rfl ?_
      refine ev_callVv (S := []) (pc := 52) dX10_hands_52 kX8_handOfLeast lX10_246 vX8_handOfLeast (cn_X8_handOfLeast_11 E h zt zs hw hY hO h2 h3 zs0) rfl rfl (wlt hw (by decide)) rfl rfl (Nat.le_of_ble_eq_true rfl) ⟨Nat.le_of_ble_eq_true rfl, Nat.le_of_ble_eq_true rfl⟩ ⟨Nat.le_of_ble_eq_true rfl, Nat.le_of_ble_eq_true rfl⟩ ?_
      refine ev_istore (pc := 55) (L' := [some (.ref 0), some (.int zv), some (.int (nI zs)), some (.int (nI zn)), some (.int (nI (hdN (zt.2 0) (zt.2 1) (zt.1 3) zs (lsN (zt.2 0) (zt.2 1) zs (zt.1 1)) (zt.1 1))))]) dX10_hands_55 (Nat.le_of_ble_eq_true rfl) rfl ?_
      refine ev_iload_n (pc := 57) dX10_hands_57 rfl ?_
      refine ev_bipush (pc := 58) (v := 10) dX10_hands_58 (by decide) ?_
      refine ev_iload_n (pc := 60) dX10_hands_60 rfl ?_
      refine ev_iadd (pc := 61) dX10_hands_61 ?_
      refine ev_icmp_ne (pc := 62) (tgt := 68) dX10_hands_62 (by decide) (fun zc62 => ?_) (fun zc62 => ?_)
      · -- ne at 62: taken
        refine ev_iload_n (pc := 68) dX10_hands_68 rfl ?_
        refine ev_iload (pc := 69) dX10_hands_69 rfl ?_
        refine ev_iconst (pc := 71) (v := (-1)) dX10_hands_71 (by decide) ?_
        refine ev_ixor (pc := 72) dX10_hands_72 ?_
        refine ev_iand (pc := 73) dX10_hands_73 ?_
        refine ev_eqI (e' := nI (zs ^^^ (hdN (zt.2 0) (zt.2 1) (zt.1 3) zs (lsN (zt.2 0) (zt.2 1) zs (zt.1 1)) (zt.1 1)))) (hd_less hO.1 h2) ?_
        refine ev_istore_n (pc := 74) (L' := [some (.ref 0), some (.int zv), some (.int (nI (zs ^^^ (hdN (zt.2 0) (zt.2 1) (zt.1 3) zs (lsN (zt.2 0) (zt.2 1) zs (zt.1 1)) (zt.1 1))))), some (.int (nI zn)), some (.int (nI (hdN (zt.2 0) (zt.2 1) (zt.1 3) zs (lsN (zt.2 0) (zt.2 1) zs (zt.1 1)) (zt.1 1))))]) dX10_hands_74 (Nat.le_of_ble_eq_true rfl) rfl ?_
        refine ev_iinc (pc := 75) (v := nI (zn + 1)) (L' := [some (.ref 0), some (.int zv), some (.int (nI (zs ^^^ (hdN (zt.2 0) (zt.2 1) (zt.1 3) zs (lsN (zt.2 0) (zt.2 1) zs (zt.1 1)) (zt.1 1))))), some (.int (nI (zn + 1))), some (.int (nI (hdN (zt.2 0) (zt.2 1) (zt.1 3) zs (lsN (zt.2 0) (zt.2 1) zs (zt.1 1)) (zt.1 1))))]) dX10_hands_75 rfl (nI_1 _) (Nat.le_of_ble_eq_true rfl) rfl ?_
        refine ev_goto (pc := 78) (tgt := 27) dX10_hands_78 (by decide) ?_
        refine ev_less (L' := [some (.ref 0), some (.int zv), some (.int (nI (zs ^^^ (hdN (zt.2 0) (zt.2 1) (zt.1 3) zs (lsN (zt.2 0) (zt.2 1) zs (zt.1 1)) (zt.1 1))))), some (.int (nI (zn + 1))), none]) (ls_keep (ls_keep (ls_keep (ls_keep (ls_drop (ls_nil _)))))) ?_
        refine ih (zn + 1) _ (by omega) (xor_lt2 h2 (hd_lt _ _ _ _ _ _)) (fun zi hi hb => ?_) ?_
        · refine h3 zi hi ?_
          rw [Nat.testBit_xor, hd_bit, decide_eq_true hi, Bool.true_and] at hb
          cases hq : zs.testBit zi
          · rw [hq] at hb; simp at hb
          · rfl
        · rw [hndN, if_neg zs0, if_neg (fun z => zc62 (by rw [z]; exact (sub_add32 _ _).symm))] at hp
          exact hp
      · -- ne at 62: not taken
        refine ev_iload (pc := 65) dX10_hands_65 rfl ?_
        refine ev_iret (pc := 67) dX10_hands_67 rfl ?_ ?_
        · rfl
        · have zs0 : zs ≠ 0 := fun z => zc34 (by rw [z]; rfl)
          rw [hndN, if_neg zs0, if_pos (by rw [zc62]; exact add_sub32 _ _)] at hp
          exact hp
    · -- ne at 34: not taken
      refine ev_iload_n (pc := 37) dX10_hands_37 rfl ?_
      refine ev_if_ne (pc := 38) (tgt := 45) dX10_hands_38 (by decide) (fun zc38 => ?_) (fun zc38 => ?_)
      · -- ne at 38: taken
        refine ev_iconst (pc := 45) (v := (-1)) dX10_hands_45 (by decide) ?_
        refine ev_iret (pc := 46) dX10_hands_46 rfl ?_ ?_
        · rfl
        · have z9 : zs = 0 := (nI_eq (a := zs) (b := 0) (by omega) (by decide)).mp zc34
          rw [hndN, if_pos z9, if_neg zc38] at hp
          exact hp
      · -- ne at 38: not taken
        refine ev_iload_n (pc := 41) dX10_hands_41 rfl ?_
        refine ev_goto (pc := 42) (tgt := 46) dX10_hands_42 (by decide) ?_
        refine ev_iret (pc := 46) dX10_hands_46 rfl ?_ ?_
        · rfl
        · have z9 : zs = 0 := (nI_eq (a := zs) (b := 0) (by omega) (by decide)).mp zc34
          rw [hndN, if_pos z9, if_pos zc38] at hp
          exact hp
theorem cn_X10_hands_11 (E : ME) (h : AH) (zt : PSt) (zv : Int32) (hw : WF h) (hY : STz zt 11 h) (hO : POK zt) (hst : h.2.2.2 0 1 = some 11) : Con E mX10_hands 5 0 0 [.ref 0, .int zv] h (fun r h' => r = some (.int (if zv = 0 ∨ (10 ≤ zv ∧ zv ≤ 21) then hndN (zt.2 0) (zt.2 1) (zt.1 3) (zt.1 1) zv 13 0 (rwsN (zt.2 0) (zt.1 1)) else -1)) ∧ h' = h) := by
  refine con_of2 (L := [some (.ref 0), some (.int zv), none, none, none]) rfl (Nat.le_of_ble_eq_true rfl) rfl ?_
  refine ev_iload_n (pc := 0) dX10_hands_0 rfl ?_
  refine ev_if_eq (pc := 1) (tgt := 17) dX10_hands_1 (by decide) (fun zc1 => ?_) (fun zc1 => ?_)
  · -- eq at 1: taken
    refine ev_aload_n (pc := 17) dX10_hands_17 rfl ?_
    refine ev_getR (pc := 18) (q := 11) dX10_hands_18 fX10_19 rfl (wlt hw (by decide)) hst ?_
    refine ev_callVv (S := []) (pc := 21) dX10_hands_21 kX8_rows lX10_243 vX8_rows (cn_X8_rows_11 E h zt hw hY hO) rfl rfl (wlt hw (by decide)) rfl rfl (Nat.le_of_ble_eq_true rfl) ⟨Nat.le_of_ble_eq_true rfl, Nat.le_of_ble_eq_true rfl⟩ ⟨Nat.le_of_ble_eq_true rfl, Nat.le_of_ble_eq_true rfl⟩ ?_
    refine ev_istore_n (pc := 24) (L' := [some (.ref 0), some (.int zv), some (.int (nI (rwsN (zt.2 0) (zt.1 1)))), none, none]) dX10_hands_24 (Nat.le_of_ble_eq_true rfl) rfl ?_
    refine ev_iconst (pc := 25) (v := 0) dX10_hands_25 (by decide) ?_
    refine ev_istore_n (pc := 26) (L' := [some (.ref 0), some (.int zv), some (.int (nI (rwsN (zt.2 0) (zt.1 1)))), some (.int 0), none]) dX10_hands_26 (Nat.le_of_ble_eq_true rfl) rfl ?_
    refine lp_chands_11 E h zt zv hw hY hO hst 13 0 (rwsN (zt.2 0) (zt.1 1)) (by decide) (rws_lt _ _) (fun zi hi hb => rws_bit _ _ zi hb) ?_
    rw [if_pos (show zv = 0 ∨ (10 ≤ zv ∧ zv ≤ 21) from Or.inl zc1)]
    exact ⟨rfl, rfl⟩
  · -- eq at 1: not taken
    refine ev_iload_n (pc := 4) dX10_hands_4 rfl ?_
    refine ev_bipush (pc := 5) (v := 10) dX10_hands_5 (by decide) ?_
    refine ev_bipush (pc := 7) (v := 21) dX10_hands_7 (by decide) ?_
    refine ev_callSv (S := []) (pc := 9) dX10_hands_9 kX10_within lX10_123 sX10_within (cn_X10_within E h zv 10 21) rfl rfl (Nat.le_of_ble_eq_true rfl) ⟨Nat.le_of_ble_eq_true rfl, Nat.le_of_ble_eq_true rfl⟩ ⟨Nat.le_of_ble_eq_true rfl, Nat.le_of_ble_eq_true rfl⟩ ?_
    refine ev_if_ne (pc := 12) (tgt := 17) dX10_hands_12 (by decide) (fun zc12 => ?_) (fun zc12 => ?_)
    · -- ne at 12: taken
      refine ev_aload_n (pc := 17) dX10_hands_17 rfl ?_
      refine ev_getR (pc := 18) (q := 11) dX10_hands_18 fX10_19 rfl (wlt hw (by decide)) hst ?_
      refine ev_callVv (S := []) (pc := 21) dX10_hands_21 kX8_rows lX10_243 vX8_rows (cn_X8_rows_11 E h zt hw hY hO) rfl rfl (wlt hw (by decide)) rfl rfl (Nat.le_of_ble_eq_true rfl) ⟨Nat.le_of_ble_eq_true rfl, Nat.le_of_ble_eq_true rfl⟩ ⟨Nat.le_of_ble_eq_true rfl, Nat.le_of_ble_eq_true rfl⟩ ?_
      refine ev_istore_n (pc := 24) (L' := [some (.ref 0), some (.int zv), some (.int (nI (rwsN (zt.2 0) (zt.1 1)))), none, none]) dX10_hands_24 (Nat.le_of_ble_eq_true rfl) rfl ?_
      refine ev_iconst (pc := 25) (v := 0) dX10_hands_25 (by decide) ?_
      refine ev_istore_n (pc := 26) (L' := [some (.ref 0), some (.int zv), some (.int (nI (rwsN (zt.2 0) (zt.1 1)))), some (.int 0), none]) dX10_hands_26 (Nat.le_of_ble_eq_true rfl) rfl ?_
      refine lp_chands_11 E h zt zv hw hY hO hst 13 0 (rwsN (zt.2 0) (zt.1 1)) (by decide) (rws_lt _ _) (fun zi hi hb => rws_bit _ _ zi hb) ?_
      rw [if_pos (show zv = 0 ∨ (10 ≤ zv ∧ zv ≤ 21) from Or.inr (bI_n0.mp zc12))]
      exact ⟨rfl, rfl⟩
    · -- ne at 12: not taken
      refine ev_iconst (pc := 15) (v := (-1)) dX10_hands_15 (by decide) ?_
      refine ev_iret (pc := 16) dX10_hands_16 rfl ?_ ?_
      · rfl
      · refine ⟨?_, rfl⟩
        rw [if_neg (show ¬ (zv = 0 ∨ (10 ≤ zv ∧ zv ≤ 21)) from fun z => z.elim zc1 (bI_0.mp zc12))]
theorem cn_X10_count_11 (E : ME) (h : AH) (zt : PSt) (zv : Int32) (hw : WF h) (hY : STz zt 11 h) (hO : POK zt) (hst : h.2.2.2 0 1 = some 11) (ht : h.2.1 41 1 = 0 ∨ h.2.1 41 1 = 1) : Con E mX10_count 1 0 0 [.ref 0, .int zv] h (fun r h' => r = some (.int (if zv = 0 then bcL (h.2.2.1 25 4 ^^^ (-1)) else if zv = 1 then h.2.1 34 1 else if zv = 2 then bcI (nI (rwsN (zt.2 0) (zt.1 1))) else if zv = 3 then nI (zt.1 1) - bcI (nI (rwsN (zt.2 0) (zt.1 1))) else if zv = 4 then h.2.1 1 1 else if zv = 5 then (if h.2.1 41 1 = 0 then -4 else h.2.1 41 3) else -1)) ∧ h' = h) := by
  refine con_of2 (L := [some (.ref 0), some (.int zv)]) rfl (Nat.le_of_ble_eq_true rfl) rfl ?_
  refine ev_iload_n (pc := 0) dX10_count_0 rfl ?_
  refine ev_nmI (fun zsv ezsv => ?_)
  by_cases zq0 : zsv = 0
  · subst zq0
    refine ev_tabIn (pc := 1) (off := 39) (tgt := 40) dX10_count_1 (by decide) (by decide) (by decide +kernel) (by decide) ?_
    refine ev_aload_n (pc := 40) dX10_count_40 rfl ?_
    refine ev_getR (pc := 41) (q := 25) dX10_count_41 fX10_45 rfl (wlt hw (by decide)) (wr hw rfl) ?_
    refine ev_callVv (S := []) (pc := 44) dX10_count_44 kX2_lostCells lX10_305 vX2_lostCells (cn_X2_lostCells E h hw) rfl rfl (wlt hw (by decide)) rfl rfl (Nat.le_of_ble_eq_true rfl) ⟨Nat.le_of_ble_eq_true rfl, Nat.le_of_ble_eq_true rfl⟩ ⟨Nat.le_of_ble_eq_true rfl, Nat.le_of_ble_eq_true rfl⟩ ?_
    refine ev_callSv (S := []) (pc := 47) dX10_count_47 kJ13_bitCount_95d88 lX10_311 sJ13_bitCount_95d88 (cn_J13_bitCount_95d88 E h (h.2.2.1 25 4 ^^^ (-1))) rfl rfl (Nat.le_of_ble_eq_true rfl) ⟨Nat.le_of_ble_eq_true rfl, Nat.le_of_ble_eq_true rfl⟩ ⟨Nat.le_of_ble_eq_true rfl, Nat.le_of_ble_eq_true rfl⟩ ?_
    refine ev_iret (pc := 50) dX10_count_50 rfl ?_ ?_
    · rfl
    · refine ⟨?_, rfl⟩
      subst ezsv
      rfl
  by_cases zq1 : zsv = 1
  · subst zq1
    refine ev_tabIn (pc := 1) (off := 50) (tgt := 51) dX10_count_1 (by decide) (by decide) (by decide +kernel) (by decide) ?_
    refine ev_aload_n (pc := 51) dX10_count_51 rfl ?_
    refine ev_getR (pc := 52) (q := 34) dX10_count_52 fX10_66 rfl (wlt hw (by decide)) (wr hw rfl) ?_
    refine ev_callVv (S := []) (pc := 55) dX10_count_55 kX1_length lX10_254 vX1_length (cn_X1_length E h hw) rfl rfl (wlt hw (by decide)) rfl rfl (Nat.le_of_ble_eq_true rfl) ⟨Nat.le_of_ble_eq_true rfl, Nat.le_of_ble_eq_true rfl⟩ ⟨Nat.le_of_ble_eq_true rfl, Nat.le_of_ble_eq_true rfl⟩ ?_
    refine ev_iret (pc := 58) dX10_count_58 rfl ?_ ?_
    · rfl
    · refine ⟨?_, rfl⟩
      subst ezsv
      rfl
  by_cases zq2 : zsv = 2
  · subst zq2
    refine ev_tabIn (pc := 1) (off := 58) (tgt := 59) dX10_count_1 (by decide) (by decide) (by decide +kernel) (by decide) ?_
    refine ev_aload_n (pc := 59) dX10_count_59 rfl ?_
    refine ev_getR (pc := 60) (q := 11) dX10_count_60 fX10_19 rfl (wlt hw (by decide)) hst ?_
    refine ev_callVv (S := []) (pc := 63) dX10_count_63 kX8_rows lX10_243 vX8_rows (cn_X8_rows_11 E h zt hw hY hO) rfl rfl (wlt hw (by decide)) rfl rfl (Nat.le_of_ble_eq_true rfl) ⟨Nat.le_of_ble_eq_true rfl, Nat.le_of_ble_eq_true rfl⟩ ⟨Nat.le_of_ble_eq_true rfl, Nat.le_of_ble_eq_true rfl⟩ ?_
    refine ev_callSv (S := []) (pc := 66) dX10_count_66 kJ6_bitCount_0f7a4 lX10_198 sJ6_bitCount_0f7a4 (cn_J6_bitCount_0f7a4 E h (nI (rwsN (zt.2 0) (zt.1 1)))) rfl rfl (Nat.le_of_ble_eq_true rfl) ⟨Nat.le_of_ble_eq_true rfl, Nat.le_of_ble_eq_true rfl⟩ ⟨Nat.le_of_ble_eq_true rfl, Nat.le_of_ble_eq_true rfl⟩ ?_
    refine ev_iret (pc := 69) dX10_count_69 rfl ?_ ?_
    · rfl
    · refine ⟨?_, rfl⟩
      subst ezsv
      rfl
  by_cases zq3 : zsv = 3
  · subst zq3
    refine ev_tabIn (pc := 1) (off := 69) (tgt := 70) dX10_count_1 (by decide) (by decide) (by decide +kernel) (by decide) ?_
    refine ev_aload_n (pc := 70) dX10_count_70 rfl ?_
    refine ev_getR (pc := 71) (q := 11) dX10_count_71 fX10_19 rfl (wlt hw (by decide)) hst ?_
    refine ev_callVv (S := []) (pc := 74) dX10_count_74 kX8_things lX10_114 vX8_things (cn_X8_things_11 E h zt hw hY hO) rfl rfl (wlt hw (by decide)) rfl rfl (Nat.le_of_ble_eq_true rfl) ⟨Nat.le_of_ble_eq_true rfl, Nat.le_of_ble_eq_true rfl⟩ ⟨Nat.le_of_ble_eq_true rfl, Nat.le_of_ble_eq_true rfl⟩ ?_
    refine ev_aload_n (pc := 77) dX10_count_77 rfl ?_
    refine ev_getR (pc := 78) (q := 11) dX10_count_78 fX10_19 rfl (wlt hw (by decide)) hst ?_
    refine ev_callVv (S := [.int (nI (zt.1 1))]) (pc := 81) dX10_count_81 kX8_rows lX10_243 vX8_rows (cn_X8_rows_11 E h zt hw hY hO) rfl rfl (wlt hw (by decide)) rfl rfl (Nat.le_of_ble_eq_true rfl) ⟨Nat.le_of_ble_eq_true rfl, Nat.le_of_ble_eq_true rfl⟩ ⟨Nat.le_of_ble_eq_true rfl, Nat.le_of_ble_eq_true rfl⟩ ?_
    refine ev_callSv (S := [.int (nI (zt.1 1))]) (pc := 84) dX10_count_84 kJ6_bitCount_0f7a4 lX10_198 sJ6_bitCount_0f7a4 (cn_J6_bitCount_0f7a4 E h (nI (rwsN (zt.2 0) (zt.1 1)))) rfl rfl (Nat.le_of_ble_eq_true rfl) ⟨Nat.le_of_ble_eq_true rfl, Nat.le_of_ble_eq_true rfl⟩ ⟨Nat.le_of_ble_eq_true rfl, Nat.le_of_ble_eq_true rfl⟩ ?_
    refine ev_isub (pc := 87) dX10_count_87 ?_
    refine ev_iret (pc := 88) dX10_count_88 rfl ?_ ?_
    · rfl
    · refine ⟨?_, rfl⟩
      subst ezsv
      rfl
  by_cases zq4 : zsv = 4
  · subst zq4
    refine ev_tabIn (pc := 1) (off := 88) (tgt := 89) dX10_count_1 (by decide) (by decide) (by decide +kernel) (by decide) ?_
    refine ev_aload_n (pc := 89) dX10_count_89 rfl ?_
    refine ev_getR (pc := 90) (q := 1) dX10_count_90 fX10_10 rfl (wlt hw (by decide)) (wr hw rfl) ?_
    refine ev_callVv (S := []) (pc := 93) dX10_count_93 kX9_length lX10_88 vX9_length (cn_X9_length E h hw) rfl rfl (wlt hw (by decide)) rfl rfl (Nat.le_of_ble_eq_true rfl) ⟨Nat.le_of_ble_eq_true rfl, Nat.le_of_ble_eq_true rfl⟩ ⟨Nat.le_of_ble_eq_true rfl, Nat.le_of_ble_eq_true rfl⟩ ?_
    refine ev_iret (pc := 96) dX10_count_96 rfl ?_ ?_
    · rfl
    · refine ⟨?_, rfl⟩
      subst ezsv
      rfl
  by_cases zq5 : zsv = 5
  · subst zq5
    refine ev_tabIn (pc := 1) (off := 96) (tgt := 97) dX10_count_1 (by decide) (by decide) (by decide +kernel) (by decide) ?_
    refine ev_aload_n (pc := 97) dX10_count_97 rfl ?_
    refine ev_getR (pc := 98) (q := 40) dX10_count_98 fX10_79 rfl (wlt hw (by decide)) (wr hw rfl) ?_
    refine ev_iconst (pc := 101) (v := 0) dX10_count_101 (by decide) ?_
    refine ev_aald (pc := 102) (q := 41) dX10_count_102 rfl (wlt hw (by decide)) (vp_in_nI (n := 0) (by decide) (by decide)) (wr hw rfl) ?_
    refine ev_callVv (S := []) (pc := 103) dX10_count_103 kX7_isThere lX10_397 vX7_isThere (cn_X7_isThere_41 E h hw ht) rfl rfl (wlt hw (by decide)) rfl rfl (Nat.le_of_ble_eq_true rfl) ⟨Nat.le_of_ble_eq_true rfl, Nat.le_of_ble_eq_true rfl⟩ ⟨Nat.le_of_ble_eq_true rfl, Nat.le_of_ble_eq_true rfl⟩ ?_
    refine ev_if_eq (pc := 106) (tgt := 121) dX10_count_106 (by decide) (fun zc106 => ?_) (fun zc106 => ?_)
    · -- eq at 106: taken
      refine ev_bipush (pc := 121) (v := (-4)) dX10_count_121 (by decide) ?_
      refine ev_iret (pc := 123) dX10_count_123 rfl ?_ ?_
      · rfl
      · refine ⟨?_, rfl⟩
        subst ezsv
        show _ = some (Value.int (if h.2.1 41 1 = 0 then -4 else h.2.1 41 3))
        rw [if_pos zc106]
    · -- eq at 106: not taken
      refine ev_aload_n (pc := 109) dX10_count_109 rfl ?_
      refine ev_getR (pc := 110) (q := 40) dX10_count_110 fX10_79 rfl (wlt hw (by decide)) (wr hw rfl) ?_
      refine ev_iconst (pc := 113) (v := 0) dX10_count_113 (by decide) ?_
      refine ev_aald (pc := 114) (q := 41) dX10_count_114 rfl (wlt hw (by decide)) (vp_in_nI (n := 0) (by decide) (by decide)) (wr hw rfl) ?_
      refine ev_callVv (S := []) (pc := 115) dX10_count_115 kX7_length lX10_400 vX7_length (cn_X7_length_41 E h hw) rfl rfl (wlt hw (by decide)) rfl rfl (Nat.le_of_ble_eq_true rfl) ⟨Nat.le_of_ble_eq_true rfl, Nat.le_of_ble_eq_true rfl⟩ ⟨Nat.le_of_ble_eq_true rfl, Nat.le_of_ble_eq_true rfl⟩ ?_
      refine ev_goto (pc := 118) (tgt := 123) dX10_count_118 (by decide) ?_
      refine ev_iret (pc := 123) dX10_count_123 rfl ?_ ?_
      · rfl
      · refine ⟨?_, rfl⟩
        subst ezsv
        show _ = some (Value.int (if h.2.1 41 1 = 0 then -4 else h.2.1 41 3))
        rw [if_neg zc106]
  have zhout : zsv.toInt < 0 ∨ 5 < zsv.toInt := by
    have nzq0 := i32_ne zq0
    have nzq1 := i32_ne zq1
    have nzq2 := i32_ne zq2
    have nzq3 := i32_ne zq3
    have nzq4 := i32_ne zq4
    have nzq5 := i32_ne zq5
    replace nzq0 : ¬ zsv.toInt = 0 := nzq0
    replace nzq1 : ¬ zsv.toInt = 1 := nzq1
    replace nzq2 : ¬ zsv.toInt = 2 := nzq2
    replace nzq3 : ¬ zsv.toInt = 3 := nzq3
    replace nzq4 : ¬ zsv.toInt = 4 := nzq4
    replace nzq5 : ¬ zsv.toInt = 5 := nzq5
    omega
  refine ev_tabOut (pc := 1) (tgt := 124) dX10_count_1 zhout (by decide) ?_
  refine ev_iconst (pc := 124) (v := (-1)) dX10_count_124 (by decide) ?_
  refine ev_iret (pc := 125) dX10_count_125 rfl ?_ ?_
  · rfl
  · refine ⟨?_, rfl⟩
    subst ezsv
    rw [if_neg zq0, if_neg zq1, if_neg zq2, if_neg zq3, if_neg zq4, if_neg zq5]
