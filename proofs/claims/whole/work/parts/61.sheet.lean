theorem cn_X10_sheetB (E : ME) (h : AH) (zk zv zl : Int32) (hw : WF h) (hk : ¬ (0 ≤ zk ∧ zk ≤ 3)) : Con E mX10_sheet 2 0 0 [.ref 0, .int zk, .int zv, .int zl] h (fun r h' => r = some (.int ((-1))) ∧ h' = h) := by
  refine con_of2 (L := [some (.ref 0), some (.int zk), some (.int zv), some (.int zl)]) rfl (Nat.le_of_ble_eq_true rfl) rfl ?_
  refine ev_iload_n (pc := 0) dX10_sheet_0 rfl ?_
  refine ev_callSv (S := []) (pc := 1) dX10_sheet_1 kX10_isSheet lX10_372 sX10_isSheet (cn_X10_isSheet E h zk) rfl rfl (Nat.le_of_ble_eq_true rfl) ⟨Nat.le_of_ble_eq_true rfl, Nat.le_of_ble_eq_true rfl⟩ ⟨Nat.le_of_ble_eq_true rfl, Nat.le_of_ble_eq_true rfl⟩ ?_
  refine ev_if_eq (pc := 4) (tgt := 20) dX10_sheet_4 (by decide) (fun zc4 => ?_) (fun zc4 => absurd (bI_0.mpr hk) zc4)
  refine ev_iconst (pc := 20) (v := (-1)) dX10_sheet_20 (by decide) ?_
  refine ev_iret (pc := 21) dX10_sheet_21 rfl ?_ ?_
  · rfl
  · exact ⟨rfl, rfl⟩
theorem cn_X10_writeB (E : ME) (h : AH) (zk zi zv : Int32) (hw : WF h) (hk : ¬ (0 ≤ zk ∧ zk ≤ 3)) : Con E mX10_write 2 0 0 [.ref 0, .int zk, .int zi, .int zv] h (fun r h' => r = some (.int ((-1))) ∧ h' = h) := by
  refine con_of2 (L := [some (.ref 0), some (.int zk), some (.int zi), some (.int zv), none]) rfl (Nat.le_of_ble_eq_true rfl) rfl ?_
  refine ev_iload_n (pc := 0) dX10_write_0 rfl ?_
  refine ev_callSv (S := []) (pc := 1) dX10_write_1 kX10_isSheet lX10_372 sX10_isSheet (cn_X10_isSheet E h zk) rfl rfl (Nat.le_of_ble_eq_true rfl) ⟨Nat.le_of_ble_eq_true rfl, Nat.le_of_ble_eq_true rfl⟩ ⟨Nat.le_of_ble_eq_true rfl, Nat.le_of_ble_eq_true rfl⟩ ?_
  refine ev_if_ne (pc := 4) (tgt := 9) dX10_write_4 (by decide) (fun zc4 => absurd (bI_0.mpr hk) zc4) (fun zc4 => ?_)
  refine ev_iconst (pc := 7) (v := (-1)) dX10_write_7 (by decide) ?_
  refine ev_iret (pc := 8) dX10_write_8 rfl ?_ ?_
  · rfl
  · exact ⟨rfl, rfl⟩
theorem cn_X10_readB (E : ME) (h : AH) (zk za zf0 zc zn : Int32) (hw : WF h) (hk : ¬ (0 ≤ zk ∧ zk ≤ 3)) : Con E mX10_read 3 0 0 [.ref 0, .int zk, .int za, .int zf0, .int zc, .int zn] h (fun r h' => r = some (.int ((-1))) ∧ h' = h) := by
  refine con_of2 (L := [some (.ref 0), some (.int zk), some (.int za), some (.int zf0), some (.int zc), some (.int zn), none, none, none, none]) rfl (Nat.le_of_ble_eq_true rfl) rfl ?_
  refine ev_iload_n (pc := 0) dX10_read_0 rfl ?_
  refine ev_callSv (S := []) (pc := 1) dX10_read_1 kX10_isSheet lX10_372 sX10_isSheet (cn_X10_isSheet E h zk) rfl rfl (Nat.le_of_ble_eq_true rfl) ⟨Nat.le_of_ble_eq_true rfl, Nat.le_of_ble_eq_true rfl⟩ ⟨Nat.le_of_ble_eq_true rfl, Nat.le_of_ble_eq_true rfl⟩ ?_
  refine ev_if_eq (pc := 4) (tgt := 39) dX10_read_4 (by decide) (fun zc4 => ?_) (fun zc4 => absurd (bI_0.mpr hk) zc4)
  refine ev_iconst (pc := 39) (v := (-1)) dX10_read_39 (by decide) ?_
  refine ev_iret (pc := 40) dX10_read_40 rfl ?_ ?_
  · rfl
  · exact ⟨rfl, rfl⟩
theorem sa_B {zt za zl zv zi : Int32} {zz : Nat} {zf : Int} {zj : Nat} (hl : zl = nI zz) (hz : zz ≤ 64) (hi : zi.toInt = zf + zj) : saN zt za zl zv zi = rdB (if zt = 0 then -4 else za) zv zf zz zj ∨ (¬ zt = 0 ∧ za = -4) := by
  unfold saN rdB sfN
  by_cases h1 : zt = 0
  · refine Or.inl ?_
    rw [if_neg (fun z => z.1 h1), if_pos h1, if_pos (by rw [if_pos h1])]
  · by_cases h4 : za = -4
    · exact Or.inr ⟨h1, h4⟩
    · refine Or.inl ?_
      rw [if_neg h1, if_neg h1, if_neg h4]
      by_cases h2 : za = zv
      · rw [if_neg (show ¬ (¬ zt = 0 ∧ ¬ za = zv) from fun z => z.2 h2), if_neg (show ¬ ¬ za = zv from fun z => z h2)]
        have e : (0 ≤ zi ∧ zi ≤ zl - 1) ↔ (0 ≤ zf + zj ∧ zf + zj < zz) := by
          rw [i_le, i_le, i_z0, hi, hl, m1_toInt (by omega)]
          omega
        by_cases h3 : 0 ≤ zi ∧ zi ≤ zl - 1
        · rw [if_pos h3, if_pos (e.mp h3)]
        · rw [if_neg h3, if_neg (fun z => h3 (e.mpr z))]
      · rw [if_pos ⟨h1, h2⟩, if_pos h2]
theorem cn_X10_sheet_0 (E : ME) (h : AH) (zv zl : Int32) (hw : WF h) : Con E mX10_sheet 2 0 0 [.ref 0, .int 0, .int zv, .int zl] h (fun r h' => r = some (.int (if (0 ≤ zv ∧ zv ≤ 2) ∧ zl ≤ 64 then (if zl < 0 then -14 else 1) else -1)) ∧ h' = if (0 ≤ zv ∧ zv ≤ 2) ∧ zl ≤ 64 then (if zl < 0 then h else sI (sI h 42 (flI 0 (h.2.1 42) 64)) 41 (upd (upd (upd (h.2.1 41) 1 1) 2 zv) 3 zl)) else h) := by
  refine con_of2 (L := [some (.ref 0), some (.int 0), some (.int zv), some (.int zl)]) rfl (Nat.le_of_ble_eq_true rfl) rfl ?_
  refine ev_iload_n (pc := 0) dX10_sheet_0 rfl ?_
  refine ev_callSv (S := []) (pc := 1) dX10_sheet_1 kX10_isSheet lX10_372 sX10_isSheet (cn_X10_isSheet E h 0) rfl rfl (Nat.le_of_ble_eq_true rfl) ⟨Nat.le_of_ble_eq_true rfl, Nat.le_of_ble_eq_true rfl⟩ ⟨Nat.le_of_ble_eq_true rfl, Nat.le_of_ble_eq_true rfl⟩ ?_
  refine ev_if_eq (pc := 4) (tgt := 20) dX10_sheet_4 (by decide) (fun zc4 => absurd zc4 (bI_n0.mpr (by decide))) (fun zc4 => ?_)
  refine ev_iload_n (pc := 7) dX10_sheet_7 rfl ?_
  refine ev_callSv (S := []) (pc := 8) dX10_sheet_8 kX7_isLane lX10_375 sX7_isLane (cn_X7_isLane E h zv) rfl rfl (Nat.le_of_ble_eq_true rfl) ⟨Nat.le_of_ble_eq_true rfl, Nat.le_of_ble_eq_true rfl⟩ ⟨Nat.le_of_ble_eq_true rfl, Nat.le_of_ble_eq_true rfl⟩ ?_
  refine ev_if_eq (pc := 11) (tgt := 20) dX10_sheet_11 (by decide) (fun zc11 => ?_) (fun zc11 => ?_)
  · -- eq at 11: taken
    refine ev_iconst (pc := 20) (v := (-1)) dX10_sheet_20 (by decide) ?_
    refine ev_iret (pc := 21) dX10_sheet_21 rfl ?_ ?_
    · rfl
    · have hC : ¬ ((0 ≤ zv ∧ zv ≤ 2) ∧ zl ≤ 64) := fun z => bI_0.mp zc11 z.1
      rw [if_neg hC, if_neg hC]
      exact ⟨rfl, rfl⟩
  · -- eq at 11: not taken
    refine ev_iload_n (pc := 14) dX10_sheet_14 rfl ?_
    refine ev_bipush (pc := 15) (v := 64) dX10_sheet_15 (by decide) ?_
    refine ev_icmp_le (pc := 17) (tgt := 22) dX10_sheet_17 (by decide) (fun zc17 => ?_) (fun zc17 => ?_)
    · -- le at 17: taken
      refine ev_iload_n (pc := 22) dX10_sheet_22 rfl ?_
      refine ev_if_ge (pc := 23) (tgt := 29) dX10_sheet_23 (by decide) (fun zc23 => ?_) (fun zc23 => ?_)
      · -- ge at 23: taken
        refine ev_aload_n (pc := 29) dX10_sheet_29 rfl ?_
        refine ev_getR (pc := 30) (q := 40) dX10_sheet_30 fX10_79 rfl (wlt hw (by decide)) (wr hw rfl) ?_
        refine ev_iload_n (pc := 33) dX10_sheet_33 rfl ?_
        refine ev_aald (pc := 34) (q := 41) dX10_sheet_34 rfl (wlt hw (by decide)) (vp_in_nI (n := 0) (by decide) (by decide)) (wr hw rfl) ?_
        refine ev_iload_n (pc := 35) dX10_sheet_35 rfl ?_
        refine ev_iload_n (pc := 36) dX10_sheet_36 rfl ?_
        refine ev_callV0 (S := []) (pc := 37) dX10_sheet_37 kX7_renew lX10_378 vX7_renew (cn_X7_renew_41 E h zv zl hw ((i_lt2 _ _).mpr zc23) zc17) rfl rfl (wlt hw (by decide)) rfl rfl (Nat.le_of_ble_eq_true rfl) ⟨Nat.le_of_ble_eq_true rfl, Nat.le_of_ble_eq_true rfl⟩ ⟨Nat.le_of_ble_eq_true rfl, Nat.le_of_ble_eq_true rfl⟩ ?_
        refine ev_eqH (h' := sI (sI h 42 (flI 0 (h.2.1 42) 64)) 41 (upd (upd (upd (h.2.1 41) 1 1) 2 zv) 3 zl)) rfl ?_
        refine ev_iconst (pc := 40) (v := 1) dX10_sheet_40 (by decide) ?_
        refine ev_iret (pc := 41) dX10_sheet_41 rfl ?_ ?_
        · rfl
        · have hC : (0 ≤ zv ∧ zv ≤ 2) ∧ zl ≤ 64 := ⟨bI_n0.mp zc11, zc17⟩
          rw [if_pos hC, if_pos hC]
          rw [if_neg ((i_lt2 _ _).mpr zc23), if_neg ((i_lt2 _ _).mpr zc23)]
          exact ⟨rfl, rfl⟩
      · -- ge at 23: not taken
        refine ev_bipush (pc := 26) (v := (-14)) dX10_sheet_26 (by decide) ?_
        refine ev_iret (pc := 28) dX10_sheet_28 rfl ?_ ?_
        · rfl
        · have hC : (0 ≤ zv ∧ zv ≤ 2) ∧ zl ≤ 64 := ⟨bI_n0.mp zc11, zc17⟩
          rw [if_pos hC, if_pos hC]
          rw [if_pos ((i_le2 _ _).mp zc23), if_pos ((i_le2 _ _).mp zc23)]
          exact ⟨rfl, rfl⟩
    · -- le at 17: not taken
      refine ev_iconst (pc := 20) (v := (-1)) dX10_sheet_20 (by decide) ?_
      refine ev_iret (pc := 21) dX10_sheet_21 rfl ?_ ?_
      · rfl
      · have hC : ¬ ((0 ≤ zv ∧ zv ≤ 2) ∧ zl ≤ 64) := fun z => zc17 z.2
        rw [if_neg hC, if_neg hC]
        exact ⟨rfl, rfl⟩
theorem cn_X10_write_0 (E : ME) (h : AH) (zi zv : Int32) (zz : Nat) (hw : WF h) (hl : h.2.1 41 3 = nI zz) (hl2 : zz ≤ 64) : Con E mX10_write 3 0 0 [.ref 0, .int 0, .int zi, .int zv] h (fun r h' => r = some (.int (if sfN (h.2.1 41 1) (h.2.1 41 3) zi = 0 then 1 else -10 - sfN (h.2.1 41 1) (h.2.1 41 3) zi)) ∧ h' = if sfN (h.2.1 41 1) (h.2.1 41 3) zi = 0 then sI h 42 (upd (h.2.1 42) zi.toNatClampNeg (lnC (h.2.1 41 2) zv)) else h) := by
  refine con_of2 (L := [some (.ref 0), some (.int 0), some (.int zi), some (.int zv), none]) rfl (Nat.le_of_ble_eq_true rfl) rfl ?_
  refine ev_iload_n (pc := 0) dX10_write_0 rfl ?_
  refine ev_callSv (S := []) (pc := 1) dX10_write_1 kX10_isSheet lX10_372 sX10_isSheet (cn_X10_isSheet E h 0) rfl rfl (Nat.le_of_ble_eq_true rfl) ⟨Nat.le_of_ble_eq_true rfl, Nat.le_of_ble_eq_true rfl⟩ ⟨Nat.le_of_ble_eq_true rfl, Nat.le_of_ble_eq_true rfl⟩ ?_
  refine ev_if_ne (pc := 4) (tgt := 9) dX10_write_4 (by decide) (fun zc4 => ?_) (fun zc4 => absurd zc4 (bI_n0.mpr (by decide)))
  refine ev_aload_n (pc := 9) dX10_write_9 rfl ?_
  refine ev_getR (pc := 10) (q := 40) dX10_write_10 fX10_79 rfl (wlt hw (by decide)) (wr hw rfl) ?_
  refine ev_iload_n (pc := 13) dX10_write_13 rfl ?_
  refine ev_aald (pc := 14) (q := 41) dX10_write_14 rfl (wlt hw (by decide)) (vp_in_nI (n := 0) (by decide) (by decide)) (wr hw rfl) ?_
  refine ev_iload_n (pc := 15) dX10_write_15 rfl ?_
  refine ev_callVv (S := []) (pc := 16) dX10_write_16 kX7_faultOf lX10_381 vX7_faultOf (cn_X7_faultOf_41 E h zi hw) rfl rfl (wlt hw (by decide)) rfl rfl (Nat.le_of_ble_eq_true rfl) ⟨Nat.le_of_ble_eq_true rfl, Nat.le_of_ble_eq_true rfl⟩ ⟨Nat.le_of_ble_eq_true rfl, Nat.le_of_ble_eq_true rfl⟩ ?_
  refine ev_istore (pc := 19) (L' := [some (.ref 0), some (.int 0), some (.int zi), some (.int zv), some (.int (sfN (h.2.1 41 1) (h.2.1 41 3) zi))]) dX10_write_19 (Nat.le_of_ble_eq_true rfl) rfl ?_
  refine ev_iload (pc := 21) dX10_write_21 rfl ?_
  refine ev_if_eq (pc := 23) (tgt := 32) dX10_write_23 (by decide) (fun zc23 => ?_) (fun zc23 => ?_)
  · -- eq at 23: taken
    refine ev_aload_n (pc := 32) dX10_write_32 rfl ?_
    refine ev_getR (pc := 33) (q := 40) dX10_write_33 fX10_79 rfl (wlt hw (by decide)) (wr hw rfl) ?_
    refine ev_iload_n (pc := 36) dX10_write_36 rfl ?_
    refine ev_aald (pc := 37) (q := 41) dX10_write_37 rfl (wlt hw (by decide)) (vp_in_nI (n := 0) (by decide) (by decide)) (wr hw rfl) ?_
    refine ev_iload_n (pc := 38) dX10_write_38 rfl ?_
    refine ev_iload_n (pc := 39) dX10_write_39 rfl ?_
    refine ev_callV (S := []) (pc := 40) dX10_write_40 kX7_store lX10_384 vX7_store (cn_X7_store_41 E h zi zv zz hw hl hl2) rfl rfl (wlt hw (by decide)) rfl rfl (Nat.le_of_ble_eq_true rfl) ⟨Nat.le_of_ble_eq_true rfl, Nat.le_of_ble_eq_true rfl⟩ ⟨Nat.le_of_ble_eq_true rfl, Nat.le_of_ble_eq_true rfl⟩ ?_
    rintro _ zh ⟨rfl, ezh⟩
    refine ev_iconst (pc := 43) (v := 1) dX10_write_43 (by decide) ?_
    refine ev_iret (pc := 44) dX10_write_44 rfl ?_ ?_
    · rfl
    · rw [if_pos zc23, if_pos zc23]
      rw [if_pos zc23] at ezh
      exact ⟨rfl, ezh⟩
  · -- eq at 23: not taken
    refine ev_bipush (pc := 26) (v := (-10)) dX10_write_26 (by decide) ?_
    refine ev_iload (pc := 28) dX10_write_28 rfl ?_
    refine ev_isub (pc := 30) dX10_write_30 ?_
    refine ev_iret (pc := 31) dX10_write_31 rfl ?_ ?_
    · rfl
    · rw [if_neg zc23, if_neg zc23]
      exact ⟨rfl, rfl⟩
theorem lp_cread_55_0 (E : ME) (h : AH) (za zf0 : Int32) (zc zn zz : Nat) (hw : WF h) (hl : h.2.1 41 3 = nI zz) (hl2 : zz ≤ 64) (h4 : ¬ h.2.1 41 2 = -4) (hcn : zc + zn ≤ 64) {post : PO} : ∀ zq zi : Nat, zi + zq = zn → (zi = 0 ∨ (0 ≤ zf0.toInt ∧ zf0.toInt < 64)) → ((rdF (rdB (if h.2.1 41 1 = 0 then -4 else h.2.1 41 2) za zf0.toInt zz) (fun zj => h.2.1 42 (zf0.toInt + (zj : Nat)).toNat) zq zi).2.2 = false → Ev E mX10_read (rmm 3 0 0) (QM E 0 0 post) 0 0 113 [some (.ref 0), some (.int 0), some (.int za), some (.int zf0), some (.int (nI zc)), some (.int (nI zn)), some (.ref 41), some (.int ((rdF (rdB (if h.2.1 41 1 = 0 then -4 else h.2.1 41 2) za zf0.toInt zz) (fun zj => h.2.1 42 (zf0.toInt + (zj : Nat)).toNat) zq zi).1)), some (.int (nI (rdF (rdB (if h.2.1 41 1 = 0 then -4 else h.2.1 41 2) za zf0.toInt zz) (fun zj => h.2.1 42 (zf0.toInt + (zj : Nat)).toNat) zq zi).2.1)), none] [] h) → ((rdF (rdB (if h.2.1 41 1 = 0 then -4 else h.2.1 41 2) za zf0.toInt zz) (fun zj => h.2.1 42 (zf0.toInt + (zj : Nat)).toNat) zq zi).2.2 = true → post (some (.int (rdF (rdB (if h.2.1 41 1 = 0 then -4 else h.2.1 41 2) za zf0.toInt zz) (fun zj => h.2.1 42 (zf0.toInt + (zj : Nat)).toNat) zq zi).1)) h) → Ev E mX10_read (rmm 3 0 0) (QM E 0 0 post) 0 0 55 [some (.ref 0), some (.int 0), some (.int za), some (.int zf0), some (.int (nI zc)), some (.int (nI zn)), some (.ref 41), some (.int 0), some (.int (nI zi)), none] [] h := by
  intro zq
  induction zq with
  | zero =>
    intro zi hi hv K _
    obtain rfl : zn = zi := by omega
    refine ev_iload (pc := 55) dX10_read_55 rfl ?_
    refine ev_iload (pc := 57) dX10_read_57 rfl ?_
    refine ev_icmp_ge (pc := 59) (tgt := 113) dX10_read_59 (by decide) (fun zc59 => ?_) (fun zc59 => absurd (nI_le (Nat.le_refl _) (by omega)) zc59)
    exact K rfl
  | succ zq ih =>
    intro zi hi hv K hp
    have hlt : zi < zn := by omega
    have zfi : (zf0 + nI zi).toInt = zf0.toInt + zi := by
      have hb := fb_rng zf0
      rcases hv with hv | hv
      · subst hv
        show (zf0 + 0).toInt = _
        rw [Int32.add_zero]
        omega
      · have e2 : (nI zi).toInt = zi := nI_toInt (by omega)
        rw [fb_addI (by rw [e2]; omega) (by rw [e2]; omega), e2]
    have zsa : saN (h.2.1 41 1) (h.2.1 41 2) (h.2.1 41 3) za (zf0 + nI zi) = (rdB (if h.2.1 41 1 = 0 then -4 else h.2.1 41 2) za zf0.toInt zz) zi := by
      rcases sa_B (zt := h.2.1 41 1) (za := h.2.1 41 2) (zv := za) hl hl2 zfi with z | z
      · exact z
      · exact absurd z.2 h4
    refine ev_iload (pc := 55) dX10_read_55 rfl ?_
    refine ev_iload (pc := 57) dX10_read_57 rfl ?_
    refine ev_icmp_ge (pc := 59) (tgt := 113) dX10_read_59 (by decide) (fun zc59 => absurd zc59 (nI_ge hlt (by omega))) (fun zc59 => ?_)
    refine ev_iload (pc := 62) dX10_read_62 rfl ?_
    refine ev_if_ne (pc := 64) (tgt := 113) dX10_read_64 (by decide) (fun zc64 => absurd rfl zc64) (fun zc64 => ?_)
    refine ev_aload (pc := 67) dX10_read_67 rfl ?_
    refine ev_iload_n (pc := 69) dX10_read_69 rfl ?_
    refine ev_iload_n (pc := 70) dX10_read_70 rfl ?_
    refine ev_iload (pc := 71) dX10_read_71 rfl ?_
    refine ev_iadd (pc := 73) dX10_read_73 ?_
    refine ev_callVv (S := []) (pc := 74) dX10_read_74 kX7_faultAs lX10_387 vX7_faultAs (cn_X7_faultAs_41 E h za (zf0 + nI zi) hw) rfl rfl (wlt hw (by decide)) rfl rfl (Nat.le_of_ble_eq_true rfl) ⟨Nat.le_of_ble_eq_true rfl, Nat.le_of_ble_eq_true rfl⟩ ⟨Nat.le_of_ble_eq_true rfl, Nat.le_of_ble_eq_true rfl⟩ ?_
    refine ev_eqI (e' := (rdB (if h.2.1 41 1 = 0 then -4 else h.2.1 41 2) za zf0.toInt zz) zi) zsa ?_
    refine ev_istore (pc := 77) (L' := [some (.ref 0), some (.int 0), some (.int za), some (.int zf0), some (.int (nI zc)), some (.int (nI zn)), some (.ref 41), some (.int ((rdB (if h.2.1 41 1 = 0 then -4 else h.2.1 41 2) za zf0.toInt zz) zi)), some (.int (nI zi)), none]) dX10_read_77 (Nat.le_of_ble_eq_true rfl) rfl ?_
    refine ev_iload (pc := 79) dX10_read_79 rfl ?_
    refine ev_if_ne (pc := 81) (tgt := 55) dX10_read_81 (by decide) (fun zc81 => ?_) (fun zc81 => ?_)
    · -- ne at 81: taken
      rw [rdF, if_neg zc81] at K
      refine ev_iload (pc := 55) dX10_read_55 rfl ?_
      refine ev_iload (pc := 57) dX10_read_57 rfl ?_
      refine ev_icmp_ge (pc := 59) (tgt := 113) dX10_read_59 (by decide) (fun zc59 => absurd zc59 (nI_ge hlt (by omega))) (fun zc59 => ?_)
      refine ev_iload (pc := 62) dX10_read_62 rfl ?_
      refine ev_if_ne (pc := 64) (tgt := 113) dX10_read_64 (by decide) (fun zc64 => ?_) (fun zc64 => absurd zc64 zc81)
      exact K rfl
    · -- ne at 81: not taken
      refine ev_aload (pc := 84) dX10_read_84 rfl ?_
      refine ev_iload_n (pc := 86) dX10_read_86 rfl ?_
      refine ev_iload (pc := 87) dX10_read_87 rfl ?_
      refine ev_iadd (pc := 89) dX10_read_89 ?_
      refine ev_callVv (S := []) (pc := 90) dX10_read_90 kX7_valueAt lX10_390 vX7_valueAt (cn_X7_valueAt_41 E h (zf0 + nI zi) zz hw hl hl2) rfl rfl (wlt hw (by decide)) rfl rfl (Nat.le_of_ble_eq_true rfl) ⟨Nat.le_of_ble_eq_true rfl, Nat.le_of_ble_eq_true rfl⟩ ⟨Nat.le_of_ble_eq_true rfl, Nat.le_of_ble_eq_true rfl⟩ ?_
      have zr0 := rdB_0 zc81
      have zsf : sfN (h.2.1 41 1) (h.2.1 41 3) (zf0 + nI zi) = 0 := by
        have z1 := zsa.trans zc81
        unfold saN at z1
        by_cases z2 : ¬ h.2.1 41 1 = 0 ∧ ¬ h.2.1 41 2 = za
        · rw [if_pos z2] at z1; exact absurd z1 (by decide)
        · rw [if_neg z2] at z1; exact z1
      have zcl : Int32.toNatClampNeg (zf0 + nI zi) = (zf0.toInt + (zi : Nat)).toNat := by
        show (zf0 + nI zi).toInt.toNat = _
        rw [zfi]
      refine ev_eqI (e' := h.2.1 42 (zf0.toInt + (zi : Nat)).toNat) (by rw [if_pos zsf, zcl]) ?_
      refine ev_iconst (pc := 93) (v := (-1)) dX10_read_93 (by decide) ?_
      refine ev_iconst (pc := 94) (v := 5) dX10_read_94 (by decide) ?_
      refine ev_callSv (S := []) (pc := 95) dX10_read_95 kX10_within lX10_123 sX10_within (cn_X10_within E h (h.2.1 42 (zf0.toInt + (zi : Nat)).toNat) (-1) 5) rfl rfl (Nat.le_of_ble_eq_true rfl) ⟨Nat.le_of_ble_eq_true rfl, Nat.le_of_ble_eq_true rfl⟩ ⟨Nat.le_of_ble_eq_true rfl, Nat.le_of_ble_eq_true rfl⟩ ?_
      refine ev_if_ne (pc := 98) (tgt := 107) dX10_read_98 (by decide) (fun zc98 => ?_) (fun zc98 => ?_)
      · -- ne at 98: taken
        refine ev_iinc (pc := 107) (v := nI (zi + 1)) (L' := [some (.ref 0), some (.int 0), some (.int za), some (.int zf0), some (.int (nI zc)), some (.int (nI zn)), some (.ref 41), some (.int ((rdB (if h.2.1 41 1 = 0 then -4 else h.2.1 41 2) za zf0.toInt zz) zi)), some (.int (nI (zi + 1))), none]) dX10_read_107 rfl (nI_1 _) (Nat.le_of_ble_eq_true rfl) rfl ?_
        refine ev_goto (pc := 110) (tgt := 55) dX10_read_110 (by decide) ?_
        rw [rdF, if_pos zc81, if_pos (bI_n0.mp zc98)] at K hp
        refine ev_eqL (L' := [some (.ref 0), some (.int 0), some (.int za), some (.int zf0), some (.int (nI zc)), some (.int (nI zn)), some (.ref 41), some (.int 0), some (.int (nI (zi + 1))), none]) (by rw [zc81]) ?_
        exact ih (zi + 1) (by omega) (Or.inr (by omega)) K hp
      · -- ne at 98: not taken
        refine ev_bipush (pc := 101) (v := (-20)) dX10_read_101 (by decide) ?_
        refine ev_iload (pc := 103) dX10_read_103 rfl ?_
        refine ev_isub (pc := 105) dX10_read_105 ?_
        refine ev_iret (pc := 106) dX10_read_106 rfl ?_ ?_
        · rfl
        · rw [rdF, if_pos zc81, if_neg (bI_0.mp zc98)] at hp
          exact hp rfl
theorem cn_X10_sheet_1 (E : ME) (h : AH) (zv zl : Int32) (hw : WF h) : Con E mX10_sheet 2 0 0 [.ref 0, .int 1, .int zv, .int zl] h (fun r h' => r = some (.int (if (0 ≤ zv ∧ zv ≤ 2) ∧ zl ≤ 64 then (if zl < 0 then -14 else 1) else -1)) ∧ h' = if (0 ≤ zv ∧ zv ≤ 2) ∧ zl ≤ 64 then (if zl < 0 then h else sI (sI h 44 (flI 0 (h.2.1 44) 64)) 43 (upd (upd (upd (h.2.1 43) 1 1) 2 zv) 3 zl)) else h) := by
  refine con_of2 (L := [some (.ref 0), some (.int 1), some (.int zv), some (.int zl)]) rfl (Nat.le_of_ble_eq_true rfl) rfl ?_
  refine ev_iload_n (pc := 0) dX10_sheet_0 rfl ?_
  refine ev_callSv (S := []) (pc := 1) dX10_sheet_1 kX10_isSheet lX10_372 sX10_isSheet (cn_X10_isSheet E h 1) rfl rfl (Nat.le_of_ble_eq_true rfl) ⟨Nat.le_of_ble_eq_true rfl, Nat.le_of_ble_eq_true rfl⟩ ⟨Nat.le_of_ble_eq_true rfl, Nat.le_of_ble_eq_true rfl⟩ ?_
  refine ev_if_eq (pc := 4) (tgt := 20) dX10_sheet_4 (by decide) (fun zc4 => absurd zc4 (bI_n0.mpr (by decide))) (fun zc4 => ?_)
  refine ev_iload_n (pc := 7) dX10_sheet_7 rfl ?_
  refine ev_callSv (S := []) (pc := 8) dX10_sheet_8 kX7_isLane lX10_375 sX7_isLane (cn_X7_isLane E h zv) rfl rfl (Nat.le_of_ble_eq_true rfl) ⟨Nat.le_of_ble_eq_true rfl, Nat.le_of_ble_eq_true rfl⟩ ⟨Nat.le_of_ble_eq_true rfl, Nat.le_of_ble_eq_true rfl⟩ ?_
  refine ev_if_eq (pc := 11) (tgt := 20) dX10_sheet_11 (by decide) (fun zc11 => ?_) (fun zc11 => ?_)
  · -- eq at 11: taken
    refine ev_iconst (pc := 20) (v := (-1)) dX10_sheet_20 (by decide) ?_
    refine ev_iret (pc := 21) dX10_sheet_21 rfl ?_ ?_
    · rfl
    · have hC : ¬ ((0 ≤ zv ∧ zv ≤ 2) ∧ zl ≤ 64) := fun z => bI_0.mp zc11 z.1
      rw [if_neg hC, if_neg hC]
      exact ⟨rfl, rfl⟩
  · -- eq at 11: not taken
    refine ev_iload_n (pc := 14) dX10_sheet_14 rfl ?_
    refine ev_bipush (pc := 15) (v := 64) dX10_sheet_15 (by decide) ?_
    refine ev_icmp_le (pc := 17) (tgt := 22) dX10_sheet_17 (by decide) (fun zc17 => ?_) (fun zc17 => ?_)
    · -- le at 17: taken
      refine ev_iload_n (pc := 22) dX10_sheet_22 rfl ?_
      refine ev_if_ge (pc := 23) (tgt := 29) dX10_sheet_23 (by decide) (fun zc23 => ?_) (fun zc23 => ?_)
      · -- ge at 23: taken
        refine ev_aload_n (pc := 29) dX10_sheet_29 rfl ?_
        refine ev_getR (pc := 30) (q := 40) dX10_sheet_30 fX10_79 rfl (wlt hw (by decide)) (wr hw rfl) ?_
        refine ev_iload_n (pc := 33) dX10_sheet_33 rfl ?_
        refine ev_aald (pc := 34) (q := 43) dX10_sheet_34 rfl (wlt hw (by decide)) (vp_in_nI (n := 1) (by decide) (by decide)) (wr hw rfl) ?_
        refine ev_iload_n (pc := 35) dX10_sheet_35 rfl ?_
        refine ev_iload_n (pc := 36) dX10_sheet_36 rfl ?_
        refine ev_callV0 (S := []) (pc := 37) dX10_sheet_37 kX7_renew lX10_378 vX7_renew (cn_X7_renew_43 E h zv zl hw ((i_lt2 _ _).mpr zc23) zc17) rfl rfl (wlt hw (by decide)) rfl rfl (Nat.le_of_ble_eq_true rfl) ⟨Nat.le_of_ble_eq_true rfl, Nat.le_of_ble_eq_true rfl⟩ ⟨Nat.le_of_ble_eq_true rfl, Nat.le_of_ble_eq_true rfl⟩ ?_
        refine ev_eqH (h' := sI (sI h 44 (flI 0 (h.2.1 44) 64)) 43 (upd (upd (upd (h.2.1 43) 1 1) 2 zv) 3 zl)) rfl ?_
        refine ev_iconst (pc := 40) (v := 1) dX10_sheet_40 (by decide) ?_
        refine ev_iret (pc := 41) dX10_sheet_41 rfl ?_ ?_
        · rfl
        · have hC : (0 ≤ zv ∧ zv ≤ 2) ∧ zl ≤ 64 := ⟨bI_n0.mp zc11, zc17⟩
          rw [if_pos hC, if_pos hC]
          rw [if_neg ((i_lt2 _ _).mpr zc23), if_neg ((i_lt2 _ _).mpr zc23)]
          exact ⟨rfl, rfl⟩
      · -- ge at 23: not taken
        refine ev_bipush (pc := 26) (v := (-14)) dX10_sheet_26 (by decide) ?_
        refine ev_iret (pc := 28) dX10_sheet_28 rfl ?_ ?_
        · rfl
        · have hC : (0 ≤ zv ∧ zv ≤ 2) ∧ zl ≤ 64 := ⟨bI_n0.mp zc11, zc17⟩
          rw [if_pos hC, if_pos hC]
          rw [if_pos ((i_le2 _ _).mp zc23), if_pos ((i_le2 _ _).mp zc23)]
          exact ⟨rfl, rfl⟩
    · -- le at 17: not taken
      refine ev_iconst (pc := 20) (v := (-1)) dX10_sheet_20 (by decide) ?_
      refine ev_iret (pc := 21) dX10_sheet_21 rfl ?_ ?_
      · rfl
      · have hC : ¬ ((0 ≤ zv ∧ zv ≤ 2) ∧ zl ≤ 64) := fun z => zc17 z.2
        rw [if_neg hC, if_neg hC]
        exact ⟨rfl, rfl⟩
theorem cn_X10_write_1 (E : ME) (h : AH) (zi zv : Int32) (zz : Nat) (hw : WF h) (hl : h.2.1 43 3 = nI zz) (hl2 : zz ≤ 64) : Con E mX10_write 3 0 0 [.ref 0, .int 1, .int zi, .int zv] h (fun r h' => r = some (.int (if sfN (h.2.1 43 1) (h.2.1 43 3) zi = 0 then 1 else -10 - sfN (h.2.1 43 1) (h.2.1 43 3) zi)) ∧ h' = if sfN (h.2.1 43 1) (h.2.1 43 3) zi = 0 then sI h 44 (upd (h.2.1 44) zi.toNatClampNeg (lnC (h.2.1 43 2) zv)) else h) := by
  refine con_of2 (L := [some (.ref 0), some (.int 1), some (.int zi), some (.int zv), none]) rfl (Nat.le_of_ble_eq_true rfl) rfl ?_
  refine ev_iload_n (pc := 0) dX10_write_0 rfl ?_
  refine ev_callSv (S := []) (pc := 1) dX10_write_1 kX10_isSheet lX10_372 sX10_isSheet (cn_X10_isSheet E h 1) rfl rfl (Nat.le_of_ble_eq_true rfl) ⟨Nat.le_of_ble_eq_true rfl, Nat.le_of_ble_eq_true rfl⟩ ⟨Nat.le_of_ble_eq_true rfl, Nat.le_of_ble_eq_true rfl⟩ ?_
  refine ev_if_ne (pc := 4) (tgt := 9) dX10_write_4 (by decide) (fun zc4 => ?_) (fun zc4 => absurd zc4 (bI_n0.mpr (by decide)))
  refine ev_aload_n (pc := 9) dX10_write_9 rfl ?_
  refine ev_getR (pc := 10) (q := 40) dX10_write_10 fX10_79 rfl (wlt hw (by decide)) (wr hw rfl) ?_
  refine ev_iload_n (pc := 13) dX10_write_13 rfl ?_
  refine ev_aald (pc := 14) (q := 43) dX10_write_14 rfl (wlt hw (by decide)) (vp_in_nI (n := 1) (by decide) (by decide)) (wr hw rfl) ?_
  refine ev_iload_n (pc := 15) dX10_write_15 rfl ?_
  refine ev_callVv (S := []) (pc := 16) dX10_write_16 kX7_faultOf lX10_381 vX7_faultOf (cn_X7_faultOf_43 E h zi hw) rfl rfl (wlt hw (by decide)) rfl rfl (Nat.le_of_ble_eq_true rfl) ⟨Nat.le_of_ble_eq_true rfl, Nat.le_of_ble_eq_true rfl⟩ ⟨Nat.le_of_ble_eq_true rfl, Nat.le_of_ble_eq_true rfl⟩ ?_
  refine ev_istore (pc := 19) (L' := [some (.ref 0), some (.int 1), some (.int zi), some (.int zv), some (.int (sfN (h.2.1 43 1) (h.2.1 43 3) zi))]) dX10_write_19 (Nat.le_of_ble_eq_true rfl) rfl ?_
  refine ev_iload (pc := 21) dX10_write_21 rfl ?_
  refine ev_if_eq (pc := 23) (tgt := 32) dX10_write_23 (by decide) (fun zc23 => ?_) (fun zc23 => ?_)
  · -- eq at 23: taken
    refine ev_aload_n (pc := 32) dX10_write_32 rfl ?_
    refine ev_getR (pc := 33) (q := 40) dX10_write_33 fX10_79 rfl (wlt hw (by decide)) (wr hw rfl) ?_
    refine ev_iload_n (pc := 36) dX10_write_36 rfl ?_
    refine ev_aald (pc := 37) (q := 43) dX10_write_37 rfl (wlt hw (by decide)) (vp_in_nI (n := 1) (by decide) (by decide)) (wr hw rfl) ?_
    refine ev_iload_n (pc := 38) dX10_write_38 rfl ?_
    refine ev_iload_n (pc := 39) dX10_write_39 rfl ?_
    refine ev_callV (S := []) (pc := 40) dX10_write_40 kX7_store lX10_384 vX7_store (cn_X7_store_43 E h zi zv zz hw hl hl2) rfl rfl (wlt hw (by decide)) rfl rfl (Nat.le_of_ble_eq_true rfl) ⟨Nat.le_of_ble_eq_true rfl, Nat.le_of_ble_eq_true rfl⟩ ⟨Nat.le_of_ble_eq_true rfl, Nat.le_of_ble_eq_true rfl⟩ ?_
    rintro _ zh ⟨rfl, ezh⟩
    refine ev_iconst (pc := 43) (v := 1) dX10_write_43 (by decide) ?_
    refine ev_iret (pc := 44) dX10_write_44 rfl ?_ ?_
    · rfl
    · rw [if_pos zc23, if_pos zc23]
      rw [if_pos zc23] at ezh
      exact ⟨rfl, ezh⟩
  · -- eq at 23: not taken
    refine ev_bipush (pc := 26) (v := (-10)) dX10_write_26 (by decide) ?_
    refine ev_iload (pc := 28) dX10_write_28 rfl ?_
    refine ev_isub (pc := 30) dX10_write_30 ?_
    refine ev_iret (pc := 31) dX10_write_31 rfl ?_ ?_
    · rfl
    · rw [if_neg zc23, if_neg zc23]
      exact ⟨rfl, rfl⟩
theorem lp_cread_55_1 (E : ME) (h : AH) (za zf0 : Int32) (zc zn zz : Nat) (hw : WF h) (hl : h.2.1 43 3 = nI zz) (hl2 : zz ≤ 64) (h4 : ¬ h.2.1 43 2 = -4) (hcn : zc + zn ≤ 64) {post : PO} : ∀ zq zi : Nat, zi + zq = zn → (zi = 0 ∨ (0 ≤ zf0.toInt ∧ zf0.toInt < 64)) → ((rdF (rdB (if h.2.1 43 1 = 0 then -4 else h.2.1 43 2) za zf0.toInt zz) (fun zj => h.2.1 44 (zf0.toInt + (zj : Nat)).toNat) zq zi).2.2 = false → Ev E mX10_read (rmm 3 0 0) (QM E 0 0 post) 0 0 113 [some (.ref 0), some (.int 1), some (.int za), some (.int zf0), some (.int (nI zc)), some (.int (nI zn)), some (.ref 43), some (.int ((rdF (rdB (if h.2.1 43 1 = 0 then -4 else h.2.1 43 2) za zf0.toInt zz) (fun zj => h.2.1 44 (zf0.toInt + (zj : Nat)).toNat) zq zi).1)), some (.int (nI (rdF (rdB (if h.2.1 43 1 = 0 then -4 else h.2.1 43 2) za zf0.toInt zz) (fun zj => h.2.1 44 (zf0.toInt + (zj : Nat)).toNat) zq zi).2.1)), none] [] h) → ((rdF (rdB (if h.2.1 43 1 = 0 then -4 else h.2.1 43 2) za zf0.toInt zz) (fun zj => h.2.1 44 (zf0.toInt + (zj : Nat)).toNat) zq zi).2.2 = true → post (some (.int (rdF (rdB (if h.2.1 43 1 = 0 then -4 else h.2.1 43 2) za zf0.toInt zz) (fun zj => h.2.1 44 (zf0.toInt + (zj : Nat)).toNat) zq zi).1)) h) → Ev E mX10_read (rmm 3 0 0) (QM E 0 0 post) 0 0 55 [some (.ref 0), some (.int 1), some (.int za), some (.int zf0), some (.int (nI zc)), some (.int (nI zn)), some (.ref 43), some (.int 0), some (.int (nI zi)), none] [] h := by
  intro zq
  induction zq with
  | zero =>
    intro zi hi hv K _
    obtain rfl : zn = zi := by omega
    refine ev_iload (pc := 55) dX10_read_55 rfl ?_
    refine ev_iload (pc := 57) dX10_read_57 rfl ?_
    refine ev_icmp_ge (pc := 59) (tgt := 113) dX10_read_59 (by decide) (fun zc59 => ?_) (fun zc59 => absurd (nI_le (Nat.le_refl _) (by omega)) zc59)
    exact K rfl
  | succ zq ih =>
    intro zi hi hv K hp
    have hlt : zi < zn := by omega
    have zfi : (zf0 + nI zi).toInt = zf0.toInt + zi := by
      have hb := fb_rng zf0
      rcases hv with hv | hv
      · subst hv
        show (zf0 + 0).toInt = _
        rw [Int32.add_zero]
        omega
      · have e2 : (nI zi).toInt = zi := nI_toInt (by omega)
        rw [fb_addI (by rw [e2]; omega) (by rw [e2]; omega), e2]
    have zsa : saN (h.2.1 43 1) (h.2.1 43 2) (h.2.1 43 3) za (zf0 + nI zi) = (rdB (if h.2.1 43 1 = 0 then -4 else h.2.1 43 2) za zf0.toInt zz) zi := by
      rcases sa_B (zt := h.2.1 43 1) (za := h.2.1 43 2) (zv := za) hl hl2 zfi with z | z
      · exact z
      · exact absurd z.2 h4
    refine ev_iload (pc := 55) dX10_read_55 rfl ?_
    refine ev_iload (pc := 57) dX10_read_57 rfl ?_
    refine ev_icmp_ge (pc := 59) (tgt := 113) dX10_read_59 (by decide) (fun zc59 => absurd zc59 (nI_ge hlt (by omega))) (fun zc59 => ?_)
    refine ev_iload (pc := 62) dX10_read_62 rfl ?_
    refine ev_if_ne (pc := 64) (tgt := 113) dX10_read_64 (by decide) (fun zc64 => absurd rfl zc64) (fun zc64 => ?_)
    refine ev_aload (pc := 67) dX10_read_67 rfl ?_
    refine ev_iload_n (pc := 69) dX10_read_69 rfl ?_
    refine ev_iload_n (pc := 70) dX10_read_70 rfl ?_
    refine ev_iload (pc := 71) dX10_read_71 rfl ?_
    refine ev_iadd (pc := 73) dX10_read_73 ?_
    refine ev_callVv (S := []) (pc := 74) dX10_read_74 kX7_faultAs lX10_387 vX7_faultAs (cn_X7_faultAs_43 E h za (zf0 + nI zi) hw) rfl rfl (wlt hw (by decide)) rfl rfl (Nat.le_of_ble_eq_true rfl) ⟨Nat.le_of_ble_eq_true rfl, Nat.le_of_ble_eq_true rfl⟩ ⟨Nat.le_of_ble_eq_true rfl, Nat.le_of_ble_eq_true rfl⟩ ?_
    refine ev_eqI (e' := (rdB (if h.2.1 43 1 = 0 then -4 else h.2.1 43 2) za zf0.toInt zz) zi) zsa ?_
    refine ev_istore (pc := 77) (L' := [some (.ref 0), some (.int 1), some (.int za), some (.int zf0), some (.int (nI zc)), some (.int (nI zn)), some (.ref 43), some (.int ((rdB (if h.2.1 43 1 = 0 then -4 else h.2.1 43 2) za zf0.toInt zz) zi)), some (.int (nI zi)), none]) dX10_read_77 (Nat.le_of_ble_eq_true rfl) rfl ?_
    refine ev_iload (pc := 79) dX10_read_79 rfl ?_
    refine ev_if_ne (pc := 81) (tgt := 55) dX10_read_81 (by decide) (fun zc81 => ?_) (fun zc81 => ?_)
    · -- ne at 81: taken
      rw [rdF, if_neg zc81] at K
      refine ev_iload (pc := 55) dX10_read_55 rfl ?_
      refine ev_iload (pc := 57) dX10_read_57 rfl ?_
      refine ev_icmp_ge (pc := 59) (tgt := 113) dX10_read_59 (by decide) (fun zc59 => absurd zc59 (nI_ge hlt (by omega))) (fun zc59 => ?_)
      refine ev_iload (pc := 62) dX10_read_62 rfl ?_
      refine ev_if_ne (pc := 64) (tgt := 113) dX10_read_64 (by decide) (fun zc64 => ?_) (fun zc64 => absurd zc64 zc81)
      exact K rfl
    · -- ne at 81: not taken
      refine ev_aload (pc := 84) dX10_read_84 rfl ?_
      refine ev_iload_n (pc := 86) dX10_read_86 rfl ?_
      refine ev_iload (pc := 87) dX10_read_87 rfl ?_
      refine ev_iadd (pc := 89) dX10_read_89 ?_
      refine ev_callVv (S := []) (pc := 90) dX10_read_90 kX7_valueAt lX10_390 vX7_valueAt (cn_X7_valueAt_43 E h (zf0 + nI zi) zz hw hl hl2) rfl rfl (wlt hw (by decide)) rfl rfl (Nat.le_of_ble_eq_true rfl) ⟨Nat.le_of_ble_eq_true rfl, Nat.le_of_ble_eq_true rfl⟩ ⟨Nat.le_of_ble_eq_true rfl, Nat.le_of_ble_eq_true rfl⟩ ?_
      have zr0 := rdB_0 zc81
      have zsf : sfN (h.2.1 43 1) (h.2.1 43 3) (zf0 + nI zi) = 0 := by
        have z1 := zsa.trans zc81
        unfold saN at z1
        by_cases z2 : ¬ h.2.1 43 1 = 0 ∧ ¬ h.2.1 43 2 = za
        · rw [if_pos z2] at z1; exact absurd z1 (by decide)
        · rw [if_neg z2] at z1; exact z1
      have zcl : Int32.toNatClampNeg (zf0 + nI zi) = (zf0.toInt + (zi : Nat)).toNat := by
        show (zf0 + nI zi).toInt.toNat = _
        rw [zfi]
      refine ev_eqI (e' := h.2.1 44 (zf0.toInt + (zi : Nat)).toNat) (by rw [if_pos zsf, zcl]) ?_
      refine ev_iconst (pc := 93) (v := (-1)) dX10_read_93 (by decide) ?_
      refine ev_iconst (pc := 94) (v := 5) dX10_read_94 (by decide) ?_
      refine ev_callSv (S := []) (pc := 95) dX10_read_95 kX10_within lX10_123 sX10_within (cn_X10_within E h (h.2.1 44 (zf0.toInt + (zi : Nat)).toNat) (-1) 5) rfl rfl (Nat.le_of_ble_eq_true rfl) ⟨Nat.le_of_ble_eq_true rfl, Nat.le_of_ble_eq_true rfl⟩ ⟨Nat.le_of_ble_eq_true rfl, Nat.le_of_ble_eq_true rfl⟩ ?_
      refine ev_if_ne (pc := 98) (tgt := 107) dX10_read_98 (by decide) (fun zc98 => ?_) (fun zc98 => ?_)
      · -- ne at 98: taken
        refine ev_iinc (pc := 107) (v := nI (zi + 1)) (L' := [some (.ref 0), some (.int 1), some (.int za), some (.int zf0), some (.int (nI zc)), some (.int (nI zn)), some (.ref 43), some (.int ((rdB (if h.2.1 43 1 = 0 then -4 else h.2.1 43 2) za zf0.toInt zz) zi)), some (.int (nI (zi + 1))), none]) dX10_read_107 rfl (nI_1 _) (Nat.le_of_ble_eq_true rfl) rfl ?_
        refine ev_goto (pc := 110) (tgt := 55) dX10_read_110 (by decide) ?_
        rw [rdF, if_pos zc81, if_pos (bI_n0.mp zc98)] at K hp
        refine ev_eqL (L' := [some (.ref 0), some (.int 1), some (.int za), some (.int zf0), some (.int (nI zc)), some (.int (nI zn)), some (.ref 43), some (.int 0), some (.int (nI (zi + 1))), none]) (by rw [zc81]) ?_
        exact ih (zi + 1) (by omega) (Or.inr (by omega)) K hp
      · -- ne at 98: not taken
        refine ev_bipush (pc := 101) (v := (-20)) dX10_read_101 (by decide) ?_
        refine ev_iload (pc := 103) dX10_read_103 rfl ?_
        refine ev_isub (pc := 105) dX10_read_105 ?_
        refine ev_iret (pc := 106) dX10_read_106 rfl ?_ ?_
        · rfl
        · rw [rdF, if_pos zc81, if_neg (bI_0.mp zc98)] at hp
          exact hp rfl
theorem cn_X10_sheet_2 (E : ME) (h : AH) (zv zl : Int32) (hw : WF h) : Con E mX10_sheet 2 0 0 [.ref 0, .int 2, .int zv, .int zl] h (fun r h' => r = some (.int (if (0 ≤ zv ∧ zv ≤ 2) ∧ zl ≤ 64 then (if zl < 0 then -14 else 1) else -1)) ∧ h' = if (0 ≤ zv ∧ zv ≤ 2) ∧ zl ≤ 64 then (if zl < 0 then h else sI (sI h 46 (flI 0 (h.2.1 46) 64)) 45 (upd (upd (upd (h.2.1 45) 1 1) 2 zv) 3 zl)) else h) := by
  refine con_of2 (L := [some (.ref 0), some (.int 2), some (.int zv), some (.int zl)]) rfl (Nat.le_of_ble_eq_true rfl) rfl ?_
  refine ev_iload_n (pc := 0) dX10_sheet_0 rfl ?_
  refine ev_callSv (S := []) (pc := 1) dX10_sheet_1 kX10_isSheet lX10_372 sX10_isSheet (cn_X10_isSheet E h 2) rfl rfl (Nat.le_of_ble_eq_true rfl) ⟨Nat.le_of_ble_eq_true rfl, Nat.le_of_ble_eq_true rfl⟩ ⟨Nat.le_of_ble_eq_true rfl, Nat.le_of_ble_eq_true rfl⟩ ?_
  refine ev_if_eq (pc := 4) (tgt := 20) dX10_sheet_4 (by decide) (fun zc4 => absurd zc4 (bI_n0.mpr (by decide))) (fun zc4 => ?_)
  refine ev_iload_n (pc := 7) dX10_sheet_7 rfl ?_
  refine ev_callSv (S := []) (pc := 8) dX10_sheet_8 kX7_isLane lX10_375 sX7_isLane (cn_X7_isLane E h zv) rfl rfl (Nat.le_of_ble_eq_true rfl) ⟨Nat.le_of_ble_eq_true rfl, Nat.le_of_ble_eq_true rfl⟩ ⟨Nat.le_of_ble_eq_true rfl, Nat.le_of_ble_eq_true rfl⟩ ?_
  refine ev_if_eq (pc := 11) (tgt := 20) dX10_sheet_11 (by decide) (fun zc11 => ?_) (fun zc11 => ?_)
  · -- eq at 11: taken
    refine ev_iconst (pc := 20) (v := (-1)) dX10_sheet_20 (by decide) ?_
    refine ev_iret (pc := 21) dX10_sheet_21 rfl ?_ ?_
    · rfl
    · have hC : ¬ ((0 ≤ zv ∧ zv ≤ 2) ∧ zl ≤ 64) := fun z => bI_0.mp zc11 z.1
      rw [if_neg hC, if_neg hC]
      exact ⟨rfl, rfl⟩
  · -- eq at 11: not taken
    refine ev_iload_n (pc := 14) dX10_sheet_14 rfl ?_
    refine ev_bipush (pc := 15) (v := 64) dX10_sheet_15 (by decide) ?_
    refine ev_icmp_le (pc := 17) (tgt := 22) dX10_sheet_17 (by decide) (fun zc17 => ?_) (fun zc17 => ?_)
    · -- le at 17: taken
      refine ev_iload_n (pc := 22) dX10_sheet_22 rfl ?_
      refine ev_if_ge (pc := 23) (tgt := 29) dX10_sheet_23 (by decide) (fun zc23 => ?_) (fun zc23 => ?_)
      · -- ge at 23: taken
        refine ev_aload_n (pc := 29) dX10_sheet_29 rfl ?_
        refine ev_getR (pc := 30) (q := 40) dX10_sheet_30 fX10_79 rfl (wlt hw (by decide)) (wr hw rfl) ?_
        refine ev_iload_n (pc := 33) dX10_sheet_33 rfl ?_
        refine ev_aald (pc := 34) (q := 45) dX10_sheet_34 rfl (wlt hw (by decide)) (vp_in_nI (n := 2) (by decide) (by decide)) (wr hw rfl) ?_
        refine ev_iload_n (pc := 35) dX10_sheet_35 rfl ?_
        refine ev_iload_n (pc := 36) dX10_sheet_36 rfl ?_
        refine ev_callV0 (S := []) (pc := 37) dX10_sheet_37 kX7_renew lX10_378 vX7_renew (cn_X7_renew_45 E h zv zl hw ((i_lt2 _ _).mpr zc23) zc17) rfl rfl (wlt hw (by decide)) rfl rfl (Nat.le_of_ble_eq_true rfl) ⟨Nat.le_of_ble_eq_true rfl, Nat.le_of_ble_eq_true rfl⟩ ⟨Nat.le_of_ble_eq_true rfl, Nat.le_of_ble_eq_true rfl⟩ ?_
        refine ev_eqH (h' := sI (sI h 46 (flI 0 (h.2.1 46) 64)) 45 (upd (upd (upd (h.2.1 45) 1 1) 2 zv) 3 zl)) rfl ?_
        refine ev_iconst (pc := 40) (v := 1) dX10_sheet_40 (by decide) ?_
        refine ev_iret (pc := 41) dX10_sheet_41 rfl ?_ ?_
        · rfl
        · have hC : (0 ≤ zv ∧ zv ≤ 2) ∧ zl ≤ 64 := ⟨bI_n0.mp zc11, zc17⟩
          rw [if_pos hC, if_pos hC]
          rw [if_neg ((i_lt2 _ _).mpr zc23), if_neg ((i_lt2 _ _).mpr zc23)]
          exact ⟨rfl, rfl⟩
      · -- ge at 23: not taken
        refine ev_bipush (pc := 26) (v := (-14)) dX10_sheet_26 (by decide) ?_
        refine ev_iret (pc := 28) dX10_sheet_28 rfl ?_ ?_
        · rfl
        · have hC : (0 ≤ zv ∧ zv ≤ 2) ∧ zl ≤ 64 := ⟨bI_n0.mp zc11, zc17⟩
          rw [if_pos hC, if_pos hC]
          rw [if_pos ((i_le2 _ _).mp zc23), if_pos ((i_le2 _ _).mp zc23)]
          exact ⟨rfl, rfl⟩
    · -- le at 17: not taken
      refine ev_iconst (pc := 20) (v := (-1)) dX10_sheet_20 (by decide) ?_
      refine ev_iret (pc := 21) dX10_sheet_21 rfl ?_ ?_
      · rfl
      · have hC : ¬ ((0 ≤ zv ∧ zv ≤ 2) ∧ zl ≤ 64) := fun z => zc17 z.2
        rw [if_neg hC, if_neg hC]
        exact ⟨rfl, rfl⟩
theorem cn_X10_write_2 (E : ME) (h : AH) (zi zv : Int32) (zz : Nat) (hw : WF h) (hl : h.2.1 45 3 = nI zz) (hl2 : zz ≤ 64) : Con E mX10_write 3 0 0 [.ref 0, .int 2, .int zi, .int zv] h (fun r h' => r = some (.int (if sfN (h.2.1 45 1) (h.2.1 45 3) zi = 0 then 1 else -10 - sfN (h.2.1 45 1) (h.2.1 45 3) zi)) ∧ h' = if sfN (h.2.1 45 1) (h.2.1 45 3) zi = 0 then sI h 46 (upd (h.2.1 46) zi.toNatClampNeg (lnC (h.2.1 45 2) zv)) else h) := by
  refine con_of2 (L := [some (.ref 0), some (.int 2), some (.int zi), some (.int zv), none]) rfl (Nat.le_of_ble_eq_true rfl) rfl ?_
  refine ev_iload_n (pc := 0) dX10_write_0 rfl ?_
  refine ev_callSv (S := []) (pc := 1) dX10_write_1 kX10_isSheet lX10_372 sX10_isSheet (cn_X10_isSheet E h 2) rfl rfl (Nat.le_of_ble_eq_true rfl) ⟨Nat.le_of_ble_eq_true rfl, Nat.le_of_ble_eq_true rfl⟩ ⟨Nat.le_of_ble_eq_true rfl, Nat.le_of_ble_eq_true rfl⟩ ?_
  refine ev_if_ne (pc := 4) (tgt := 9) dX10_write_4 (by decide) (fun zc4 => ?_) (fun zc4 => absurd zc4 (bI_n0.mpr (by decide)))
  refine ev_aload_n (pc := 9) dX10_write_9 rfl ?_
  refine ev_getR (pc := 10) (q := 40) dX10_write_10 fX10_79 rfl (wlt hw (by decide)) (wr hw rfl) ?_
  refine ev_iload_n (pc := 13) dX10_write_13 rfl ?_
  refine ev_aald (pc := 14) (q := 45) dX10_write_14 rfl (wlt hw (by decide)) (vp_in_nI (n := 2) (by decide) (by decide)) (wr hw rfl) ?_
  refine ev_iload_n (pc := 15) dX10_write_15 rfl ?_
  refine ev_callVv (S := []) (pc := 16) dX10_write_16 kX7_faultOf lX10_381 vX7_faultOf (cn_X7_faultOf_45 E h zi hw) rfl rfl (wlt hw (by decide)) rfl rfl (Nat.le_of_ble_eq_true rfl) ⟨Nat.le_of_ble_eq_true rfl, Nat.le_of_ble_eq_true rfl⟩ ⟨Nat.le_of_ble_eq_true rfl, Nat.le_of_ble_eq_true rfl⟩ ?_
  refine ev_istore (pc := 19) (L' := [some (.ref 0), some (.int 2), some (.int zi), some (.int zv), some (.int (sfN (h.2.1 45 1) (h.2.1 45 3) zi))]) dX10_write_19 (Nat.le_of_ble_eq_true rfl) rfl ?_
  refine ev_iload (pc := 21) dX10_write_21 rfl ?_
  refine ev_if_eq (pc := 23) (tgt := 32) dX10_write_23 (by decide) (fun zc23 => ?_) (fun zc23 => ?_)
  · -- eq at 23: taken
    refine ev_aload_n (pc := 32) dX10_write_32 rfl ?_
    refine ev_getR (pc := 33) (q := 40) dX10_write_33 fX10_79 rfl (wlt hw (by decide)) (wr hw rfl) ?_
    refine ev_iload_n (pc := 36) dX10_write_36 rfl ?_
    refine ev_aald (pc := 37) (q := 45) dX10_write_37 rfl (wlt hw (by decide)) (vp_in_nI (n := 2) (by decide) (by decide)) (wr hw rfl) ?_
    refine ev_iload_n (pc := 38) dX10_write_38 rfl ?_
    refine ev_iload_n (pc := 39) dX10_write_39 rfl ?_
    refine ev_callV (S := []) (pc := 40) dX10_write_40 kX7_store lX10_384 vX7_store (cn_X7_store_45 E h zi zv zz hw hl hl2) rfl rfl (wlt hw (by decide)) rfl rfl (Nat.le_of_ble_eq_true rfl) ⟨Nat.le_of_ble_eq_true rfl, Nat.le_of_ble_eq_true rfl⟩ ⟨Nat.le_of_ble_eq_true rfl, Nat.le_of_ble_eq_true rfl⟩ ?_
    rintro _ zh ⟨rfl, ezh⟩
    refine ev_iconst (pc := 43) (v := 1) dX10_write_43 (by decide) ?_
    refine ev_iret (pc := 44) dX10_write_44 rfl ?_ ?_
    · rfl
    · rw [if_pos zc23, if_pos zc23]
      rw [if_pos zc23] at ezh
      exact ⟨rfl, ezh⟩
  · -- eq at 23: not taken
    refine ev_bipush (pc := 26) (v := (-10)) dX10_write_26 (by decide) ?_
    refine ev_iload (pc := 28) dX10_write_28 rfl ?_
    refine ev_isub (pc := 30) dX10_write_30 ?_
    refine ev_iret (pc := 31) dX10_write_31 rfl ?_ ?_
    · rfl
    · rw [if_neg zc23, if_neg zc23]
      exact ⟨rfl, rfl⟩
theorem lp_cread_55_2 (E : ME) (h : AH) (za zf0 : Int32) (zc zn zz : Nat) (hw : WF h) (hl : h.2.1 45 3 = nI zz) (hl2 : zz ≤ 64) (h4 : ¬ h.2.1 45 2 = -4) (hcn : zc + zn ≤ 64) {post : PO} : ∀ zq zi : Nat, zi + zq = zn → (zi = 0 ∨ (0 ≤ zf0.toInt ∧ zf0.toInt < 64)) → ((rdF (rdB (if h.2.1 45 1 = 0 then -4 else h.2.1 45 2) za zf0.toInt zz) (fun zj => h.2.1 46 (zf0.toInt + (zj : Nat)).toNat) zq zi).2.2 = false → Ev E mX10_read (rmm 3 0 0) (QM E 0 0 post) 0 0 113 [some (.ref 0), some (.int 2), some (.int za), some (.int zf0), some (.int (nI zc)), some (.int (nI zn)), some (.ref 45), some (.int ((rdF (rdB (if h.2.1 45 1 = 0 then -4 else h.2.1 45 2) za zf0.toInt zz) (fun zj => h.2.1 46 (zf0.toInt + (zj : Nat)).toNat) zq zi).1)), some (.int (nI (rdF (rdB (if h.2.1 45 1 = 0 then -4 else h.2.1 45 2) za zf0.toInt zz) (fun zj => h.2.1 46 (zf0.toInt + (zj : Nat)).toNat) zq zi).2.1)), none] [] h) → ((rdF (rdB (if h.2.1 45 1 = 0 then -4 else h.2.1 45 2) za zf0.toInt zz) (fun zj => h.2.1 46 (zf0.toInt + (zj : Nat)).toNat) zq zi).2.2 = true → post (some (.int (rdF (rdB (if h.2.1 45 1 = 0 then -4 else h.2.1 45 2) za zf0.toInt zz) (fun zj => h.2.1 46 (zf0.toInt + (zj : Nat)).toNat) zq zi).1)) h) → Ev E mX10_read (rmm 3 0 0) (QM E 0 0 post) 0 0 55 [some (.ref 0), some (.int 2), some (.int za), some (.int zf0), some (.int (nI zc)), some (.int (nI zn)), some (.ref 45), some (.int 0), some (.int (nI zi)), none] [] h := by
  intro zq
  induction zq with
  | zero =>
    intro zi hi hv K _
    obtain rfl : zn = zi := by omega
    refine ev_iload (pc := 55) dX10_read_55 rfl ?_
    refine ev_iload (pc := 57) dX10_read_57 rfl ?_
    refine ev_icmp_ge (pc := 59) (tgt := 113) dX10_read_59 (by decide) (fun zc59 => ?_) (fun zc59 => absurd (nI_le (Nat.le_refl _) (by omega)) zc59)
    exact K rfl
  | succ zq ih =>
    intro zi hi hv K hp
    have hlt : zi < zn := by omega
    have zfi : (zf0 + nI zi).toInt = zf0.toInt + zi := by
      have hb := fb_rng zf0
      rcases hv with hv | hv
      · subst hv
        show (zf0 + 0).toInt = _
        rw [Int32.add_zero]
        omega
      · have e2 : (nI zi).toInt = zi := nI_toInt (by omega)
        rw [fb_addI (by rw [e2]; omega) (by rw [e2]; omega), e2]
    have zsa : saN (h.2.1 45 1) (h.2.1 45 2) (h.2.1 45 3) za (zf0 + nI zi) = (rdB (if h.2.1 45 1 = 0 then -4 else h.2.1 45 2) za zf0.toInt zz) zi := by
      rcases sa_B (zt := h.2.1 45 1) (za := h.2.1 45 2) (zv := za) hl hl2 zfi with z | z
      · exact z
      · exact absurd z.2 h4
    refine ev_iload (pc := 55) dX10_read_55 rfl ?_
    refine ev_iload (pc := 57) dX10_read_57 rfl ?_
    refine ev_icmp_ge (pc := 59) (tgt := 113) dX10_read_59 (by decide) (fun zc59 => absurd zc59 (nI_ge hlt (by omega))) (fun zc59 => ?_)
    refine ev_iload (pc := 62) dX10_read_62 rfl ?_
    refine ev_if_ne (pc := 64) (tgt := 113) dX10_read_64 (by decide) (fun zc64 => absurd rfl zc64) (fun zc64 => ?_)
    refine ev_aload (pc := 67) dX10_read_67 rfl ?_
    refine ev_iload_n (pc := 69) dX10_read_69 rfl ?_
    refine ev_iload_n (pc := 70) dX10_read_70 rfl ?_
    refine ev_iload (pc := 71) dX10_read_71 rfl ?_
    refine ev_iadd (pc := 73) dX10_read_73 ?_
    refine ev_callVv (S := []) (pc := 74) dX10_read_74 kX7_faultAs lX10_387 vX7_faultAs (cn_X7_faultAs_45 E h za (zf0 + nI zi) hw) rfl rfl (wlt hw (by decide)) rfl rfl (Nat.le_of_ble_eq_true rfl) ⟨Nat.le_of_ble_eq_true rfl, Nat.le_of_ble_eq_true rfl⟩ ⟨Nat.le_of_ble_eq_true rfl, Nat.le_of_ble_eq_true rfl⟩ ?_
    refine ev_eqI (e' := (rdB (if h.2.1 45 1 = 0 then -4 else h.2.1 45 2) za zf0.toInt zz) zi) zsa ?_
    refine ev_istore (pc := 77) (L' := [some (.ref 0), some (.int 2), some (.int za), some (.int zf0), some (.int (nI zc)), some (.int (nI zn)), some (.ref 45), some (.int ((rdB (if h.2.1 45 1 = 0 then -4 else h.2.1 45 2) za zf0.toInt zz) zi)), some (.int (nI zi)), none]) dX10_read_77 (Nat.le_of_ble_eq_true rfl) rfl ?_
    refine ev_iload (pc := 79) dX10_read_79 rfl ?_
    refine ev_if_ne (pc := 81) (tgt := 55) dX10_read_81 (by decide) (fun zc81 => ?_) (fun zc81 => ?_)
    · -- ne at 81: taken
      rw [rdF, if_neg zc81] at K
      refine ev_iload (pc := 55) dX10_read_55 rfl ?_
      refine ev_iload (pc := 57) dX10_read_57 rfl ?_
      refine ev_icmp_ge (pc := 59) (tgt := 113) dX10_read_59 (by decide) (fun zc59 => absurd zc59 (nI_ge hlt (by omega))) (fun zc59 => ?_)
      refine ev_iload (pc := 62) dX10_read_62 rfl ?_
      refine ev_if_ne (pc := 64) (tgt := 113) dX10_read_64 (by decide) (fun zc64 => ?_) (fun zc64 => absurd zc64 zc81)
      exact K rfl
    · -- ne at 81: not taken
      refine ev_aload (pc := 84) dX10_read_84 rfl ?_
      refine ev_iload_n (pc := 86) dX10_read_86 rfl ?_
      refine ev_iload (pc := 87) dX10_read_87 rfl ?_
      refine ev_iadd (pc := 89) dX10_read_89 ?_
      refine ev_callVv (S := []) (pc := 90) dX10_read_90 kX7_valueAt lX10_390 vX7_valueAt (cn_X7_valueAt_45 E h (zf0 + nI zi) zz hw hl hl2) rfl rfl (wlt hw (by decide)) rfl rfl (Nat.le_of_ble_eq_true rfl) ⟨Nat.le_of_ble_eq_true rfl, Nat.le_of_ble_eq_true rfl⟩ ⟨Nat.le_of_ble_eq_true rfl, Nat.le_of_ble_eq_true rfl⟩ ?_
      have zr0 := rdB_0 zc81
      have zsf : sfN (h.2.1 45 1) (h.2.1 45 3) (zf0 + nI zi) = 0 := by
        have z1 := zsa.trans zc81
        unfold saN at z1
        by_cases z2 : ¬ h.2.1 45 1 = 0 ∧ ¬ h.2.1 45 2 = za
        · rw [if_pos z2] at z1; exact absurd z1 (by decide)
        · rw [if_neg z2] at z1; exact z1
      have zcl : Int32.toNatClampNeg (zf0 + nI zi) = (zf0.toInt + (zi : Nat)).toNat := by
        show (zf0 + nI zi).toInt.toNat = _
        rw [zfi]
      refine ev_eqI (e' := h.2.1 46 (zf0.toInt + (zi : Nat)).toNat) (by rw [if_pos zsf, zcl]) ?_
      refine ev_iconst (pc := 93) (v := (-1)) dX10_read_93 (by decide) ?_
      refine ev_iconst (pc := 94) (v := 5) dX10_read_94 (by decide) ?_
      refine ev_callSv (S := []) (pc := 95) dX10_read_95 kX10_within lX10_123 sX10_within (cn_X10_within E h (h.2.1 46 (zf0.toInt + (zi : Nat)).toNat) (-1) 5) rfl rfl (Nat.le_of_ble_eq_true rfl) ⟨Nat.le_of_ble_eq_true rfl, Nat.le_of_ble_eq_true rfl⟩ ⟨Nat.le_of_ble_eq_true rfl, Nat.le_of_ble_eq_true rfl⟩ ?_
      refine ev_if_ne (pc := 98) (tgt := 107) dX10_read_98 (by decide) (fun zc98 => ?_) (fun zc98 => ?_)
      · -- ne at 98: taken
        refine ev_iinc (pc := 107) (v := nI (zi + 1)) (L' := [some (.ref 0), some (.int 2), some (.int za), some (.int zf0), some (.int (nI zc)), some (.int (nI zn)), some (.ref 45), some (.int ((rdB (if h.2.1 45 1 = 0 then -4 else h.2.1 45 2) za zf0.toInt zz) zi)), some (.int (nI (zi + 1))), none]) dX10_read_107 rfl (nI_1 _) (Nat.le_of_ble_eq_true rfl) rfl ?_
        refine ev_goto (pc := 110) (tgt := 55) dX10_read_110 (by decide) ?_
        rw [rdF, if_pos zc81, if_pos (bI_n0.mp zc98)] at K hp
        refine ev_eqL (L' := [some (.ref 0), some (.int 2), some (.int za), some (.int zf0), some (.int (nI zc)), some (.int (nI zn)), some (.ref 45), some (.int 0), some (.int (nI (zi + 1))), none]) (by rw [zc81]) ?_
        exact ih (zi + 1) (by omega) (Or.inr (by omega)) K hp
      · -- ne at 98: not taken
        refine ev_bipush (pc := 101) (v := (-20)) dX10_read_101 (by decide) ?_
        refine ev_iload (pc := 103) dX10_read_103 rfl ?_
        refine ev_isub (pc := 105) dX10_read_105 ?_
        refine ev_iret (pc := 106) dX10_read_106 rfl ?_ ?_
        · rfl
        · rw [rdF, if_pos zc81, if_neg (bI_0.mp zc98)] at hp
          exact hp rfl
theorem cn_X10_sheet_3 (E : ME) (h : AH) (zv zl : Int32) (hw : WF h) : Con E mX10_sheet 2 0 0 [.ref 0, .int 3, .int zv, .int zl] h (fun r h' => r = some (.int (if (0 ≤ zv ∧ zv ≤ 2) ∧ zl ≤ 64 then (if zl < 0 then -14 else 1) else -1)) ∧ h' = if (0 ≤ zv ∧ zv ≤ 2) ∧ zl ≤ 64 then (if zl < 0 then h else sI (sI h 48 (flI 0 (h.2.1 48) 64)) 47 (upd (upd (upd (h.2.1 47) 1 1) 2 zv) 3 zl)) else h) := by
  refine con_of2 (L := [some (.ref 0), some (.int 3), some (.int zv), some (.int zl)]) rfl (Nat.le_of_ble_eq_true rfl) rfl ?_
  refine ev_iload_n (pc := 0) dX10_sheet_0 rfl ?_
  refine ev_callSv (S := []) (pc := 1) dX10_sheet_1 kX10_isSheet lX10_372 sX10_isSheet (cn_X10_isSheet E h 3) rfl rfl (Nat.le_of_ble_eq_true rfl) ⟨Nat.le_of_ble_eq_true rfl, Nat.le_of_ble_eq_true rfl⟩ ⟨Nat.le_of_ble_eq_true rfl, Nat.le_of_ble_eq_true rfl⟩ ?_
  refine ev_if_eq (pc := 4) (tgt := 20) dX10_sheet_4 (by decide) (fun zc4 => absurd zc4 (bI_n0.mpr (by decide))) (fun zc4 => ?_)
  refine ev_iload_n (pc := 7) dX10_sheet_7 rfl ?_
  refine ev_callSv (S := []) (pc := 8) dX10_sheet_8 kX7_isLane lX10_375 sX7_isLane (cn_X7_isLane E h zv) rfl rfl (Nat.le_of_ble_eq_true rfl) ⟨Nat.le_of_ble_eq_true rfl, Nat.le_of_ble_eq_true rfl⟩ ⟨Nat.le_of_ble_eq_true rfl, Nat.le_of_ble_eq_true rfl⟩ ?_
  refine ev_if_eq (pc := 11) (tgt := 20) dX10_sheet_11 (by decide) (fun zc11 => ?_) (fun zc11 => ?_)
  · -- eq at 11: taken
    refine ev_iconst (pc := 20) (v := (-1)) dX10_sheet_20 (by decide) ?_
    refine ev_iret (pc := 21) dX10_sheet_21 rfl ?_ ?_
    · rfl
    · have hC : ¬ ((0 ≤ zv ∧ zv ≤ 2) ∧ zl ≤ 64) := fun z => bI_0.mp zc11 z.1
      rw [if_neg hC, if_neg hC]
      exact ⟨rfl, rfl⟩
  · -- eq at 11: not taken
    refine ev_iload_n (pc := 14) dX10_sheet_14 rfl ?_
    refine ev_bipush (pc := 15) (v := 64) dX10_sheet_15 (by decide) ?_
    refine ev_icmp_le (pc := 17) (tgt := 22) dX10_sheet_17 (by decide) (fun zc17 => ?_) (fun zc17 => ?_)
    · -- le at 17: taken
      refine ev_iload_n (pc := 22) dX10_sheet_22 rfl ?_
      refine ev_if_ge (pc := 23) (tgt := 29) dX10_sheet_23 (by decide) (fun zc23 => ?_) (fun zc23 => ?_)
      · -- ge at 23: taken
        refine ev_aload_n (pc := 29) dX10_sheet_29 rfl ?_
        refine ev_getR (pc := 30) (q := 40) dX10_sheet_30 fX10_79 rfl (wlt hw (by decide)) (wr hw rfl) ?_
        refine ev_iload_n (pc := 33) dX10_sheet_33 rfl ?_
        refine ev_aald (pc := 34) (q := 47) dX10_sheet_34 rfl (wlt hw (by decide)) (vp_in_nI (n := 3) (by decide) (by decide)) (wr hw rfl) ?_
        refine ev_iload_n (pc := 35) dX10_sheet_35 rfl ?_
        refine ev_iload_n (pc := 36) dX10_sheet_36 rfl ?_
        refine ev_callV0 (S := []) (pc := 37) dX10_sheet_37 kX7_renew lX10_378 vX7_renew (cn_X7_renew_47 E h zv zl hw ((i_lt2 _ _).mpr zc23) zc17) rfl rfl (wlt hw (by decide)) rfl rfl (Nat.le_of_ble_eq_true rfl) ⟨Nat.le_of_ble_eq_true rfl, Nat.le_of_ble_eq_true rfl⟩ ⟨Nat.le_of_ble_eq_true rfl, Nat.le_of_ble_eq_true rfl⟩ ?_
        refine ev_eqH (h' := sI (sI h 48 (flI 0 (h.2.1 48) 64)) 47 (upd (upd (upd (h.2.1 47) 1 1) 2 zv) 3 zl)) rfl ?_
        refine ev_iconst (pc := 40) (v := 1) dX10_sheet_40 (by decide) ?_
        refine ev_iret (pc := 41) dX10_sheet_41 rfl ?_ ?_
        · rfl
        · have hC : (0 ≤ zv ∧ zv ≤ 2) ∧ zl ≤ 64 := ⟨bI_n0.mp zc11, zc17⟩
          rw [if_pos hC, if_pos hC]
          rw [if_neg ((i_lt2 _ _).mpr zc23), if_neg ((i_lt2 _ _).mpr zc23)]
          exact ⟨rfl, rfl⟩
      · -- ge at 23: not taken
        refine ev_bipush (pc := 26) (v := (-14)) dX10_sheet_26 (by decide) ?_
        refine ev_iret (pc := 28) dX10_sheet_28 rfl ?_ ?_
        · rfl
        · have hC : (0 ≤ zv ∧ zv ≤ 2) ∧ zl ≤ 64 := ⟨bI_n0.mp zc11, zc17⟩
          rw [if_pos hC, if_pos hC]
          rw [if_pos ((i_le2 _ _).mp zc23), if_pos ((i_le2 _ _).mp zc23)]
          exact ⟨rfl, rfl⟩
    · -- le at 17: not taken
      refine ev_iconst (pc := 20) (v := (-1)) dX10_sheet_20 (by decide) ?_
      refine ev_iret (pc := 21) dX10_sheet_21 rfl ?_ ?_
      · rfl
      · have hC : ¬ ((0 ≤ zv ∧ zv ≤ 2) ∧ zl ≤ 64) := fun z => zc17 z.2
        rw [if_neg hC, if_neg hC]
        exact ⟨rfl, rfl⟩
theorem cn_X10_write_3 (E : ME) (h : AH) (zi zv : Int32) (zz : Nat) (hw : WF h) (hl : h.2.1 47 3 = nI zz) (hl2 : zz ≤ 64) : Con E mX10_write 3 0 0 [.ref 0, .int 3, .int zi, .int zv] h (fun r h' => r = some (.int (if sfN (h.2.1 47 1) (h.2.1 47 3) zi = 0 then 1 else -10 - sfN (h.2.1 47 1) (h.2.1 47 3) zi)) ∧ h' = if sfN (h.2.1 47 1) (h.2.1 47 3) zi = 0 then sI h 48 (upd (h.2.1 48) zi.toNatClampNeg (lnC (h.2.1 47 2) zv)) else h) := by
  refine con_of2 (L := [some (.ref 0), some (.int 3), some (.int zi), some (.int zv), none]) rfl (Nat.le_of_ble_eq_true rfl) rfl ?_
  refine ev_iload_n (pc := 0) dX10_write_0 rfl ?_
  refine ev_callSv (S := []) (pc := 1) dX10_write_1 kX10_isSheet lX10_372 sX10_isSheet (cn_X10_isSheet E h 3) rfl rfl (Nat.le_of_ble_eq_true rfl) ⟨Nat.le_of_ble_eq_true rfl, Nat.le_of_ble_eq_true rfl⟩ ⟨Nat.le_of_ble_eq_true rfl, Nat.le_of_ble_eq_true rfl⟩ ?_
  refine ev_if_ne (pc := 4) (tgt := 9) dX10_write_4 (by decide) (fun zc4 => ?_) (fun zc4 => absurd zc4 (bI_n0.mpr (by decide)))
  refine ev_aload_n (pc := 9) dX10_write_9 rfl ?_
  refine ev_getR (pc := 10) (q := 40) dX10_write_10 fX10_79 rfl (wlt hw (by decide)) (wr hw rfl) ?_
  refine ev_iload_n (pc := 13) dX10_write_13 rfl ?_
  refine ev_aald (pc := 14) (q := 47) dX10_write_14 rfl (wlt hw (by decide)) (vp_in_nI (n := 3) (by decide) (by decide)) (wr hw rfl) ?_
  refine ev_iload_n (pc := 15) dX10_write_15 rfl ?_
  refine ev_callVv (S := []) (pc := 16) dX10_write_16 kX7_faultOf lX10_381 vX7_faultOf (cn_X7_faultOf_47 E h zi hw) rfl rfl (wlt hw (by decide)) rfl rfl (Nat.le_of_ble_eq_true rfl) ⟨Nat.le_of_ble_eq_true rfl, Nat.le_of_ble_eq_true rfl⟩ ⟨Nat.le_of_ble_eq_true rfl, Nat.le_of_ble_eq_true rfl⟩ ?_
  refine ev_istore (pc := 19) (L' := [some (.ref 0), some (.int 3), some (.int zi), some (.int zv), some (.int (sfN (h.2.1 47 1) (h.2.1 47 3) zi))]) dX10_write_19 (Nat.le_of_ble_eq_true rfl) rfl ?_
  refine ev_iload (pc := 21) dX10_write_21 rfl ?_
  refine ev_if_eq (pc := 23) (tgt := 32) dX10_write_23 (by decide) (fun zc23 => ?_) (fun zc23 => ?_)
  · -- eq at 23: taken
    refine ev_aload_n (pc := 32) dX10_write_32 rfl ?_
    refine ev_getR (pc := 33) (q := 40) dX10_write_33 fX10_79 rfl (wlt hw (by decide)) (wr hw rfl) ?_
    refine ev_iload_n (pc := 36) dX10_write_36 rfl ?_
    refine ev_aald (pc := 37) (q := 47) dX10_write_37 rfl (wlt hw (by decide)) (vp_in_nI (n := 3) (by decide) (by decide)) (wr hw rfl) ?_
    refine ev_iload_n (pc := 38) dX10_write_38 rfl ?_
    refine ev_iload_n (pc := 39) dX10_write_39 rfl ?_
    refine ev_callV (S := []) (pc := 40) dX10_write_40 kX7_store lX10_384 vX7_store (cn_X7_store_47 E h zi zv zz hw hl hl2) rfl rfl (wlt hw (by decide)) rfl rfl (Nat.le_of_ble_eq_true rfl) ⟨Nat.le_of_ble_eq_true rfl, Nat.le_of_ble_eq_true rfl⟩ ⟨Nat.le_of_ble_eq_true rfl, Nat.le_of_ble_eq_true rfl⟩ ?_
    rintro _ zh ⟨rfl, ezh⟩
    refine ev_iconst (pc := 43) (v := 1) dX10_write_43 (by decide) ?_
    refine ev_iret (pc := 44) dX10_write_44 rfl ?_ ?_
    · rfl
    · rw [if_pos zc23, if_pos zc23]
      rw [if_pos zc23] at ezh
      exact ⟨rfl, ezh⟩
  · -- eq at 23: not taken
    refine ev_bipush (pc := 26) (v := (-10)) dX10_write_26 (by decide) ?_
    refine ev_iload (pc := 28) dX10_write_28 rfl ?_
    refine ev_isub (pc := 30) dX10_write_30 ?_
    refine ev_iret (pc := 31) dX10_write_31 rfl ?_ ?_
    · rfl
    · rw [if_neg zc23, if_neg zc23]
      exact ⟨rfl, rfl⟩
theorem lp_cread_55_3 (E : ME) (h : AH) (za zf0 : Int32) (zc zn zz : Nat) (hw : WF h) (hl : h.2.1 47 3 = nI zz) (hl2 : zz ≤ 64) (h4 : ¬ h.2.1 47 2 = -4) (hcn : zc + zn ≤ 64) {post : PO} : ∀ zq zi : Nat, zi + zq = zn → (zi = 0 ∨ (0 ≤ zf0.toInt ∧ zf0.toInt < 64)) → ((rdF (rdB (if h.2.1 47 1 = 0 then -4 else h.2.1 47 2) za zf0.toInt zz) (fun zj => h.2.1 48 (zf0.toInt + (zj : Nat)).toNat) zq zi).2.2 = false → Ev E mX10_read (rmm 3 0 0) (QM E 0 0 post) 0 0 113 [some (.ref 0), some (.int 3), some (.int za), some (.int zf0), some (.int (nI zc)), some (.int (nI zn)), some (.ref 47), some (.int ((rdF (rdB (if h.2.1 47 1 = 0 then -4 else h.2.1 47 2) za zf0.toInt zz) (fun zj => h.2.1 48 (zf0.toInt + (zj : Nat)).toNat) zq zi).1)), some (.int (nI (rdF (rdB (if h.2.1 47 1 = 0 then -4 else h.2.1 47 2) za zf0.toInt zz) (fun zj => h.2.1 48 (zf0.toInt + (zj : Nat)).toNat) zq zi).2.1)), none] [] h) → ((rdF (rdB (if h.2.1 47 1 = 0 then -4 else h.2.1 47 2) za zf0.toInt zz) (fun zj => h.2.1 48 (zf0.toInt + (zj : Nat)).toNat) zq zi).2.2 = true → post (some (.int (rdF (rdB (if h.2.1 47 1 = 0 then -4 else h.2.1 47 2) za zf0.toInt zz) (fun zj => h.2.1 48 (zf0.toInt + (zj : Nat)).toNat) zq zi).1)) h) → Ev E mX10_read (rmm 3 0 0) (QM E 0 0 post) 0 0 55 [some (.ref 0), some (.int 3), some (.int za), some (.int zf0), some (.int (nI zc)), some (.int (nI zn)), some (.ref 47), some (.int 0), some (.int (nI zi)), none] [] h := by
  intro zq
  induction zq with
  | zero =>
    intro zi hi hv K _
    obtain rfl : zn = zi := by omega
    refine ev_iload (pc := 55) dX10_read_55 rfl ?_
    refine ev_iload (pc := 57) dX10_read_57 rfl ?_
    refine ev_icmp_ge (pc := 59) (tgt := 113) dX10_read_59 (by decide) (fun zc59 => ?_) (fun zc59 => absurd (nI_le (Nat.le_refl _) (by omega)) zc59)
    exact K rfl
  | succ zq ih =>
    intro zi hi hv K hp
    have hlt : zi < zn := by omega
    have zfi : (zf0 + nI zi).toInt = zf0.toInt + zi := by
      have hb := fb_rng zf0
      rcases hv with hv | hv
      · subst hv
        show (zf0 + 0).toInt = _
        rw [Int32.add_zero]
        omega
      · have e2 : (nI zi).toInt = zi := nI_toInt (by omega)
        rw [fb_addI (by rw [e2]; omega) (by rw [e2]; omega), e2]
    have zsa : saN (h.2.1 47 1) (h.2.1 47 2) (h.2.1 47 3) za (zf0 + nI zi) = (rdB (if h.2.1 47 1 = 0 then -4 else h.2.1 47 2) za zf0.toInt zz) zi := by
      rcases sa_B (zt := h.2.1 47 1) (za := h.2.1 47 2) (zv := za) hl hl2 zfi with z | z
      · exact z
      · exact absurd z.2 h4
    refine ev_iload (pc := 55) dX10_read_55 rfl ?_
    refine ev_iload (pc := 57) dX10_read_57 rfl ?_
    refine ev_icmp_ge (pc := 59) (tgt := 113) dX10_read_59 (by decide) (fun zc59 => absurd zc59 (nI_ge hlt (by omega))) (fun zc59 => ?_)
    refine ev_iload (pc := 62) dX10_read_62 rfl ?_
    refine ev_if_ne (pc := 64) (tgt := 113) dX10_read_64 (by decide) (fun zc64 => absurd rfl zc64) (fun zc64 => ?_)
    refine ev_aload (pc := 67) dX10_read_67 rfl ?_
    refine ev_iload_n (pc := 69) dX10_read_69 rfl ?_
    refine ev_iload_n (pc := 70) dX10_read_70 rfl ?_
    refine ev_iload (pc := 71) dX10_read_71 rfl ?_
    refine ev_iadd (pc := 73) dX10_read_73 ?_
    refine ev_callVv (S := []) (pc := 74) dX10_read_74 kX7_faultAs lX10_387 vX7_faultAs (cn_X7_faultAs_47 E h za (zf0 + nI zi) hw) rfl rfl (wlt hw (by decide)) rfl rfl (Nat.le_of_ble_eq_true rfl) ⟨Nat.le_of_ble_eq_true rfl, Nat.le_of_ble_eq_true rfl⟩ ⟨Nat.le_of_ble_eq_true rfl, Nat.le_of_ble_eq_true rfl⟩ ?_
    refine ev_eqI (e' := (rdB (if h.2.1 47 1 = 0 then -4 else h.2.1 47 2) za zf0.toInt zz) zi) zsa ?_
    refine ev_istore (pc := 77) (L' := [some (.ref 0), some (.int 3), some (.int za), some (.int zf0), some (.int (nI zc)), some (.int (nI zn)), some (.ref 47), some (.int ((rdB (if h.2.1 47 1 = 0 then -4 else h.2.1 47 2) za zf0.toInt zz) zi)), some (.int (nI zi)), none]) dX10_read_77 (Nat.le_of_ble_eq_true rfl) rfl ?_
    refine ev_iload (pc := 79) dX10_read_79 rfl ?_
    refine ev_if_ne (pc := 81) (tgt := 55) dX10_read_81 (by decide) (fun zc81 => ?_) (fun zc81 => ?_)
    · -- ne at 81: taken
      rw [rdF, if_neg zc81] at K
      refine ev_iload (pc := 55) dX10_read_55 rfl ?_
      refine ev_iload (pc := 57) dX10_read_57 rfl ?_
      refine ev_icmp_ge (pc := 59) (tgt := 113) dX10_read_59 (by decide) (fun zc59 => absurd zc59 (nI_ge hlt (by omega))) (fun zc59 => ?_)
      refine ev_iload (pc := 62) dX10_read_62 rfl ?_
      refine ev_if_ne (pc := 64) (tgt := 113) dX10_read_64 (by decide) (fun zc64 => ?_) (fun zc64 => absurd zc64 zc81)
      exact K rfl
    · -- ne at 81: not taken
      refine ev_aload (pc := 84) dX10_read_84 rfl ?_
      refine ev_iload_n (pc := 86) dX10_read_86 rfl ?_
      refine ev_iload (pc := 87) dX10_read_87 rfl ?_
      refine ev_iadd (pc := 89) dX10_read_89 ?_
      refine ev_callVv (S := []) (pc := 90) dX10_read_90 kX7_valueAt lX10_390 vX7_valueAt (cn_X7_valueAt_47 E h (zf0 + nI zi) zz hw hl hl2) rfl rfl (wlt hw (by decide)) rfl rfl (Nat.le_of_ble_eq_true rfl) ⟨Nat.le_of_ble_eq_true rfl, Nat.le_of_ble_eq_true rfl⟩ ⟨Nat.le_of_ble_eq_true rfl, Nat.le_of_ble_eq_true rfl⟩ ?_
      have zr0 := rdB_0 zc81
      have zsf : sfN (h.2.1 47 1) (h.2.1 47 3) (zf0 + nI zi) = 0 := by
        have z1 := zsa.trans zc81
        unfold saN at z1
        by_cases z2 : ¬ h.2.1 47 1 = 0 ∧ ¬ h.2.1 47 2 = za
        · rw [if_pos z2] at z1; exact absurd z1 (by decide)
        · rw [if_neg z2] at z1; exact z1
      have zcl : Int32.toNatClampNeg (zf0 + nI zi) = (zf0.toInt + (zi : Nat)).toNat := by
        show (zf0 + nI zi).toInt.toNat = _
        rw [zfi]
      refine ev_eqI (e' := h.2.1 48 (zf0.toInt + (zi : Nat)).toNat) (by rw [if_pos zsf, zcl]) ?_
      refine ev_iconst (pc := 93) (v := (-1)) dX10_read_93 (by decide) ?_
      refine ev_iconst (pc := 94) (v := 5) dX10_read_94 (by decide) ?_
      refine ev_callSv (S := []) (pc := 95) dX10_read_95 kX10_within lX10_123 sX10_within (cn_X10_within E h (h.2.1 48 (zf0.toInt + (zi : Nat)).toNat) (-1) 5) rfl rfl (Nat.le_of_ble_eq_true rfl) ⟨Nat.le_of_ble_eq_true rfl, Nat.le_of_ble_eq_true rfl⟩ ⟨Nat.le_of_ble_eq_true rfl, Nat.le_of_ble_eq_true rfl⟩ ?_
      refine ev_if_ne (pc := 98) (tgt := 107) dX10_read_98 (by decide) (fun zc98 => ?_) (fun zc98 => ?_)
      · -- ne at 98: taken
        refine ev_iinc (pc := 107) (v := nI (zi + 1)) (L' := [some (.ref 0), some (.int 3), some (.int za), some (.int zf0), some (.int (nI zc)), some (.int (nI zn)), some (.ref 47), some (.int ((rdB (if h.2.1 47 1 = 0 then -4 else h.2.1 47 2) za zf0.toInt zz) zi)), some (.int (nI (zi + 1))), none]) dX10_read_107 rfl (nI_1 _) (Nat.le_of_ble_eq_true rfl) rfl ?_
        refine ev_goto (pc := 110) (tgt := 55) dX10_read_110 (by decide) ?_
        rw [rdF, if_pos zc81, if_pos (bI_n0.mp zc98)] at K hp
        refine ev_eqL (L' := [some (.ref 0), some (.int 3), some (.int za), some (.int zf0), some (.int (nI zc)), some (.int (nI zn)), some (.ref 47), some (.int 0), some (.int (nI (zi + 1))), none]) (by rw [zc81]) ?_
        exact ih (zi + 1) (by omega) (Or.inr (by omega)) K hp
      · -- ne at 98: not taken
        refine ev_bipush (pc := 101) (v := (-20)) dX10_read_101 (by decide) ?_
        refine ev_iload (pc := 103) dX10_read_103 rfl ?_
        refine ev_isub (pc := 105) dX10_read_105 ?_
        refine ev_iret (pc := 106) dX10_read_106 rfl ?_ ?_
        · rfl
        · rw [rdF, if_pos zc81, if_neg (bI_0.mp zc98)] at hp
          exact hp rfl
